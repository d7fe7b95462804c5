import java.util.NoSuchElementException;

/** Promises 7 to 12, 39 and 50: the numbers of the drive, its bodies, parts, stock and ratios. */
public final class DriveTest {
    private static final Class<IndexOutOfBoundsException> INDEX = IndexOutOfBoundsException.class;
    private static final Class<IllegalArgumentException> ARGUMENT = IllegalArgumentException.class;
    private static final Class<NoSuchElementException> ELEMENT = NoSuchElementException.class;

    // Stock in no order; the last body has no train, and is on a body that has one.
    private static final String TEXT = "start 1999;stock 30 8 100 12;slack 45;"
            + "body sun period 36525;body moon period 2732 retro on sun;body far period 9999999 on sun;"
            + "train sun gear 8 12 ring 30 100;train moon idler 9 gear 10 12 idler 12 gear 12 8;";

    private DriveTest() {
    }

    public static void main(String[] args) {
        counts();
        tellsBodies();
        tellsParts();
        tellsStockInOrder();
        tellsRatios();
        countsMissingGears();
        countsUses();
        Check.end("DriveTest");
    }

    private static void counts() {
        PlanetDrive drive = Check.driveOf(TEXT);
        drive.crank(77);
        drive.crank(78);
        int[] due = {3, 4, 1999, 45, 78, 2, 8 + 12 + 30 + 100 + 9 + 10 + 12 + 12 + 12 + 8};
        for (int what = 0; what < due.length; what++) {
            Check.equal("count " + what, drive.count(what), due[what]);
        }
        for (int what : new int[] {-1, 7, Integer.MIN_VALUE, Integer.MAX_VALUE}) {
            Check.refuses("count " + what, ARGUMENT, () -> drive.count(what));
        }
    }

    private static void tellsBodies() {
        PlanetDrive drive = Check.driveOf(TEXT);
        int[][] due = {{36525, 0, -1, 2, 150, 2}, {2732, 1, 0, 4, 63, 6}, {9999999, 0, 0, 0, 0, 0}};
        for (int body = 0; body < due.length; body++) {
            for (int what = 0; what < 6; what++) {
                Check.equal("body " + body + " " + what, drive.body(body, what), due[body][what]);
            }
        }
        for (int wrong : new int[] {-1, 3, 8, Integer.MIN_VALUE, Integer.MAX_VALUE}) {
            Check.refuses("body " + wrong, INDEX, () -> drive.body(wrong, 0));
            Check.refuses("body first, then what", INDEX, () -> drive.body(wrong, -1));
        }
        for (int wrong : new int[] {-1, 6, Integer.MIN_VALUE, Integer.MAX_VALUE}) {
            Check.refuses("what " + wrong, ARGUMENT, () -> drive.body(0, wrong));
        }
    }

    private static void tellsParts() {
        PlanetDrive drive = Check.driveOf(TEXT);
        int[][] sun = {{0, 8, 12}, {1, 30, 100}};
        int[][] moon = {{2, 9, 0}, {0, 10, 12}, {2, 12, 0}, {0, 12, 8}};
        for (int what = 0; what < 3; what++) {
            for (int part = 0; part < sun.length; part++) {
                Check.equal("sun " + part + " " + what, drive.part(0, part, what), sun[part][what]);
            }
            for (int part = 0; part < moon.length; part++) {
                Check.equal("moon " + part + " " + what, drive.part(1, part, what), moon[part][what]);
            }
        }
        Check.refuses("body", INDEX, () -> drive.part(3, 0, 0));
        Check.refuses("body first", INDEX, () -> drive.part(-1, -1, -1));
        for (int wrong : new int[] {-1, 2, 4, Integer.MIN_VALUE, Integer.MAX_VALUE}) {
            Check.refuses("part " + wrong, ELEMENT, () -> drive.part(0, wrong, 0));
            Check.refuses("part before what", ELEMENT, () -> drive.part(0, wrong, 3));
        }
        Check.refuses("no parts", ELEMENT, () -> drive.part(2, 0, 0));
        for (int wrong : new int[] {-1, 3, Integer.MIN_VALUE, Integer.MAX_VALUE}) {
            Check.refuses("what " + wrong, ARGUMENT, () -> drive.part(0, 1, wrong));
        }
    }

    private static void tellsStockInOrder() {
        PlanetDrive drive = Check.driveOf(TEXT);
        int[] due = {8, 12, 30, 100};
        for (int index = 0; index < due.length; index++) {
            Check.equal("stock " + index, drive.stock(index), due[index]);
        }
        for (int wrong : new int[] {-1, 4, 16, Integer.MIN_VALUE, Integer.MAX_VALUE}) {
            Check.refuses("stock " + wrong, ELEMENT, () -> drive.stock(wrong));
        }
    }

    private static void tellsRatios() {
        PlanetDrive drive = Check.driveOf(TEXT);
        // Sun: -8/12 * 30/100 = -1/5. Moon: 10/12 * 12/8 = 5/4, four times turned round, less 1/5.
        ratio(drive, 0, -1, 5);
        ratio(drive, 1, 21, 20);
        ratio(drive, 2, -1, 5);
        drive.removePart(0);
        ratio(drive, 0, -2, 3);
        ratio(drive, 1, 7, 12);
        drive.removePart(0);
        ratio(drive, 0, 0, 1);
        ratio(drive, 1, 5, 4);
        drive.addPart(0, 2, 8, 0);
        ratio(drive, 0, -1, 1);
        ratio(drive, 1, 1, 4);
        ratio(drive, 2, -1, 1);
        PlanetDrive other = Check.driveOf("body a period 100;body b period 100 on a;"
                + "train a ring 97 100 ring 97 99;train b gear 8 97 gear 8 89;");
        ratio(other, 0, 9409, 9900);
        ratio(other, 1, 81861497, 85466700);
        for (int wrong : new int[] {-1, 3, 8, Integer.MIN_VALUE, Integer.MAX_VALUE}) {
            Check.refuses("numerator " + wrong, INDEX, () -> drive.numerator(wrong));
            Check.refuses("denominator " + wrong, INDEX, () -> drive.denominator(wrong));
        }
    }

    private static void ratio(PlanetDrive drive, int body, long top, long bottom) {
        Check.equal("numerator " + body, drive.numerator(body), top);
        Check.equal("denominator " + body, drive.denominator(body), bottom);
    }

    private static void countsMissingGears() {
        PlanetDrive drive = Check.driveOf(TEXT);
        Check.equal("none", drive.missing(0), 0);
        Check.equal("an idler and a driver", drive.missing(1), 2);
        Check.equal("no train", drive.missing(2), 0);
        drive.removeStock(12);
        Check.equal("a driven gear", drive.missing(0), 1);
        Check.equal("each gear counts", drive.missing(1), 5);
        for (int wrong : new int[] {-1, 3, Integer.MIN_VALUE, Integer.MAX_VALUE}) {
            Check.refuses("missing " + wrong, INDEX, () -> drive.missing(wrong));
        }
    }

    private static void countsUses() {
        PlanetDrive drive = Check.driveOf(TEXT);
        Check.equal("8", drive.uses(8), 2);
        Check.equal("9, an idler", drive.uses(9), 1);
        Check.equal("12", drive.uses(12), 4);
        Check.equal("100", drive.uses(100), 1);
        Check.equal("11", drive.uses(11), 0);
        // The driven gear that an idler does not have is none of 0 teeth.
        for (int teeth : new int[] {0, -1, 7, 101, Integer.MIN_VALUE, Integer.MAX_VALUE}) {
            Check.equal("uses " + teeth, drive.uses(teeth), 0);
        }
        drive.copyTrain(0, 2);
        Check.equal("8 then", drive.uses(8), 3);
        Check.equal("without bodies", new PlanetDrive().uses(8), 0);
    }
}
