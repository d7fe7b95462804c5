/** Promises 52 to 55: what is written to the output. */
public final class OutputTest {
    private static final Class<IndexOutOfBoundsException> INDEX = IndexOutOfBoundsException.class;
    private static final Class<IllegalArgumentException> ARGUMENT = IllegalArgumentException.class;

    private static final String TEXT = "body mercury period 8797;body moon period 2732 on mercury;"
            + "body abcdefgh period 7000 retro;body z period 100;"
            + "train mercury gear 10 88 gear 9 90;train moon ring 9 100 gear 30 75 idler 20;"
            + "train abcdefgh gear 10 70 ring 10 100;";
    private static final int[] WRONG_BODIES = {-1, 4, 8, Integer.MIN_VALUE, Integer.MAX_VALUE};

    private OutputTest() {
    }

    public static void main(String[] args) {
        printsErrors();
        printsAtMost40Years();
        refusesToPrintErrors();
        reports();
        printsTrains();
        tellsBytes();
        keepsTheOutput();
        Check.end("OutputTest");
    }

    private static void written(PlanetDrive drive, int length, String due) {
        Check.equal("length", length, due.length());
        Check.equal("output", Check.outputOf(drive), due);
    }

    private static void printsErrors() {
        PlanetDrive drive = Check.driveOf(TEXT);
        written(drive, drive.printErrors(0, 2000, 2001, 1), "2000:-1838;2001:-3671;");
        written(drive, drive.printErrors(0, 2000, 2001, 2), "2000:-1838;");
        written(drive, drive.printErrors(1, 2000, 2999, 999), "2000:5104052;2999:5093495600;");
        written(drive, drive.printErrors(2, 2010, 2017, 3), "2010:0;2013:0;2016:0;");
        written(drive, drive.printErrors(2, 2999, 2999, 1), "2999:0;");
        written(drive, drive.printErrors(3, 2000, 2000, 999), "2000:-474336000;");
    }

    private static void printsAtMost40Years() {
        PlanetDrive drive = Check.driveOf(TEXT);
        StringBuilder due = new StringBuilder();
        for (int year = 2000; year < 2040; year++) {
            due.append(year).append(":0;");
        }
        written(drive, drive.printErrors(2, 2000, 2999, 1), due.toString());
        written(drive, drive.printErrors(2, 2000, 2039, 1), due.toString());
        due.setLength(due.length() - 7);
        written(drive, drive.printErrors(2, 2000, 2038, 1), due.toString());
        PlanetDrive large = Check.driveOf("body a period 100 retro;body b period 100 retro on a;"
                + "train a ring 100 8 ring 100 8;train b ring 100 8 ring 100 8;");
        due.setLength(0);
        for (int year = 2025; year < 3000; year += 25) {
            // The greatest error that there is: 625/2 + 1 turns a day.
            due.append(year).append(':').append(627L * 648000 * large.endOf(year)).append(';');
        }
        written(large, large.printErrors(1, 2025, 2999, 25), due.toString());
    }

    private static void refusesToPrintErrors() {
        PlanetDrive drive = Check.driveOf(TEXT);
        drive.printErrors(0, 2000, 2000, 1);
        for (int wrong : WRONG_BODIES) {
            Check.refuses("body " + wrong, INDEX, () -> drive.printErrors(wrong, 2000, 2001, 1));
            Check.refuses("body first", INDEX, () -> drive.printErrors(wrong, 1, 0, 0));
        }
        for (int wrong : new int[] {1999, 3000, 0, Integer.MIN_VALUE, Integer.MAX_VALUE}) {
            Check.refuses("first " + wrong, ARGUMENT, () -> drive.printErrors(0, wrong, 2500, 1));
            Check.refuses("last " + wrong, ARGUMENT, () -> drive.printErrors(0, 2500, wrong, 1));
        }
        Check.refuses("backward", ARGUMENT, () -> drive.printErrors(0, 2001, 2000, 1));
        for (int wrong : new int[] {0, -1, 1000, Integer.MIN_VALUE, Integer.MAX_VALUE}) {
            Check.refuses("step " + wrong, ARGUMENT, () -> drive.printErrors(0, 2000, 2001, wrong));
        }
        Check.equal("not changed", Check.outputOf(drive), "2000:-1838;");
    }

    private static void reports() {
        PlanetDrive drive = Check.driveOf(TEXT);
        written(drive, drive.report(2000), "mercury:-1838\nmoon:5104052\nabcdefgh:0\nz:-474336000\n");
        written(drive, drive.report(2999), "mercury:-1834386\nmoon:5093495600\nabcdefgh:0\nz:-473354928000\n");
        for (int wrong : new int[] {1999, 3000, 0, Integer.MIN_VALUE, Integer.MAX_VALUE}) {
            Check.refuses("year " + wrong, ARGUMENT, () -> drive.report(wrong));
        }
        Check.equal("not changed", drive.outputByte(0), 'm');
        PlanetDrive empty = new PlanetDrive();
        written(empty, empty.report(2000), "");
    }

    private static void printsTrains() {
        PlanetDrive drive = Check.driveOf(TEXT);
        written(drive, drive.printTrain(0), "10/88*9/90=1:88");
        written(drive, drive.printTrain(1), "9o100*30/75*20i=521:11000");
        written(drive, drive.printTrain(2), "10/70*10o100=-1:70");
        written(drive, drive.printTrain(3), "=0:1");
        drive.addPart(3, 2, 100, 0);
        written(drive, drive.printTrain(3), "100i=-1:1");
        drive.removePart(1);
        drive.removePart(1);
        drive.removePart(1);
        written(drive, drive.printTrain(1), "=1:88");
        for (int wrong : WRONG_BODIES) {
            Check.refuses("body " + wrong, INDEX, () -> drive.printTrain(wrong));
        }
        Check.equal("not changed", Check.outputOf(drive), "=1:88");
    }

    private static void tellsBytes() {
        PlanetDrive drive = Check.driveOf(TEXT);
        Check.equal("no output yet", drive.outputByte(0), -1);
        drive.printTrain(0);
        Check.equal("the first", drive.outputByte(0), '1');
        Check.equal("the last", drive.outputByte(14), '8');
        for (int wrong : new int[] {15, -1, 1024, Integer.MIN_VALUE, Integer.MAX_VALUE}) {
            Check.equal("byte " + wrong, drive.outputByte(wrong), -1);
        }
        drive.printTrain(3);
        Check.equal("the last of a shorter one", drive.outputByte(3), '1');
        Check.equal("behind it", drive.outputByte(4), -1);
        drive.report(2000);
        Check.equal("a line feed", drive.outputByte(13), 10);
    }

    private static void keepsTheOutput() {
        PlanetDrive drive = Check.driveOf(TEXT);
        drive.saveState();
        drive.removePart(0);
        drive.printTrain(0);
        String due = Check.outputOf(drive);
        drive.undo();
        Check.equal("undone", Check.outputOf(drive), due);
        drive.restoreState();
        Check.equal("restored", Check.outputOf(drive), due);
    }
}
