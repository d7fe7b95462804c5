/** The sentences about the output: promises 52 to 55. */
final class OutputSentences {
    private static final String BODIES = "body a period 100;body abcdefgh period 100 retro;body z period 100;"
            + "train z ring 8 8;";

    private OutputSentences() {
    }

    static void all() {
        refusesErrors();
        writesErrors();
        reports();
        printsTrains();
        tellsBytes();
    }

    private static void written(PlanetDrive drive, int length, String due) {
        Check.equal("bytes", length, due.length());
        Check.equal("output", Check.outputOf(drive), due);
        Check.equal("behind the last byte", drive.outputByte(due.length()), -1);
    }

    private static void refusesErrors() {
        Sentence.of(52, Sentence.NO_BODY).holds(
                () -> Refusal.bodies((drive, body) -> drive.printErrors(body, 2400, 2400, 1)));
        Sentence.of(52, "Throws `IllegalArgumentException` if one of the years or step is out of range, or last is"
                + " earlier than first", "- `first`: a year", "- `last`: a year, not earlier", "- `step`: 1 to 999")
                .holds(() -> {
                    Refusal.years((drive, first) -> drive.printErrors(0, first, drive.count(2) + 999, 500));
                    Refusal.years((drive, last) -> drive.printErrors(0, drive.count(2), last, 500));
                    Refusal.within(1, 999, (drive, step) -> drive.printErrors(0, 2400, 2400, step));
                    Refusal.refuses("step 0", Drives::rich, Refusal.ARGUMENT,
                            drive -> drive.printErrors(0, 2000, 2000, 0));
                    Refusal.takes("the same year", Drives::rich, drive -> drive.printErrors(0, 2500, 2500, 1));
                    Refusal.refuses("the year before", Drives::rich, Refusal.ARGUMENT,
                            drive -> drive.printErrors(0, 2500, 2499, 1));
                    Refusal.refuses("the other way round", Drives::rich, Refusal.ARGUMENT,
                            drive -> drive.printErrors(0, 2995, 1996, 1));
                });
    }

    private static String errors(int first, int last, int step, long arcADay) {
        StringBuilder text = new StringBuilder();
        int years = 0;
        for (int year = first; year <= last && years < 40; year += step) {
            text.append(year).append(':').append(arcADay * Exact.endOf(2000, year)).append(';');
            years++;
        }
        return text.toString();
    }

    private static void writesErrors() {
        Sentence.of(52, "Writes the errors of a body to the output, in place of what it had: for each of the years"
                + " first, first plus step and so on to last the year, \":\", the error at its end, and a semicolon; at"
                + " most 40 years.", "Returns the number of bytes.").holds(() -> {
            PlanetDrive drive = Check.driveOf(BODIES);
            int[][] rows = {{2000, 2000, 1}, {2000, 2000, 999}, {2000, 2001, 1}, {2000, 2001, 2}, {2000, 2004, 2},
                {2000, 2005, 2}, {2000, 2998, 999}, {2000, 2999, 999}, {2001, 2999, 999}, {2999, 2999, 1},
                {2000, 2038, 1}, {2000, 2039, 1}, {2000, 2040, 1}, {2000, 2041, 1}, {2000, 2078, 2}, {2000, 2079, 2},
                {2000, 2080, 2}, {2000, 2999, 25}, {2000, 2999, 26}};
            for (int n = 0; n < rows.length; n++) {
                int[] row = rows[n];
                // A new object in time: none answers over 512 calls.
                PlanetDrive next = Check.driveOf(BODIES);
                int body = n % 3;
                next.report(2999);
                int length = next.printErrors(body, row[0], row[1], row[2]);
                String due = errors(row[0], row[1], row[2], new long[] {-1296000, 1296000, 0}[body]);
                Check.equal("bytes", length, due.length());
                Check.equal("output", beginning(next), due.substring(0, Math.min(200, due.length())));
                Check.equal("the last byte", next.outputByte(due.length() - 1), ';');
                Check.equal("behind the last byte", next.outputByte(due.length()), -1);
            }
            written(drive, drive.printErrors(0, 2000, 2001, 1), "2000:-474336000;2001:-947376000;");
        });
        Sentence.of(53, "The output does not belong to the state that is saved or undone.").holds(() -> {
            PlanetDrive drive = Check.driveOf(BODIES);
            drive.printTrain(2);
            drive.saveState();
            drive.crank(5);
            drive.report(2000);
            String due = Check.outputOf(drive);
            drive.undo();
            Check.equal("undone", Check.outputOf(drive), due);
            drive.restoreState();
            Check.equal("restored", Check.outputOf(drive), due);
        });
    }

    private static String beginning(PlanetDrive drive) {
        StringBuilder text = new StringBuilder();
        for (int index = 0; index < 200 && drive.outputByte(index) >= 0; index++) {
            text.append((char) drive.outputByte(index));
        }
        return text.toString();
    }

    private static void reports() {
        Sentence.of(53, Sentence.A_YEAR, Sentence.NO_YEAR).holds(() -> {
            Refusal.years(PlanetDrive::report);
            Refusal.range(Drives::fresh, 2000, 2999, Refusal.ARGUMENT, PlanetDrive::report);
        });
        Sentence.of(53, "Writes a report to the output, in place of what it had: for each body in ascending order its"
                + " name, \":\", its error at the end of the year, and a line feed (byte 10).", "Returns the number of"
                + " bytes.").holds(() -> {
            PlanetDrive drive = Check.driveOf(BODIES);
            written(drive, drive.report(2999), "a:-473354928000\nabcdefgh:473354928000\nz:0\n");
            written(drive, drive.report(2000), "a:-474336000\nabcdefgh:474336000\nz:0\n");
            PlanetDrive none = new PlanetDrive();
            written(none, none.report(2000), "");
            Check.load(drive, "");
            written(drive, drive.report(2000), "");
            PlanetDrive eight = Check.driveOf("body h period 100;body g period 100;body f period 100;body e period 100;"
                    + "body d period 100;body c period 100;body b period 100;body a period 100;");
            written(eight, eight.report(2000), "h:-474336000\ng:-474336000\nf:-474336000\ne:-474336000\n"
                    + "d:-474336000\nc:-474336000\nb:-474336000\na:-474336000\n");
        });
    }

    private static void printsTrains() {
        Sentence.of(54, Sentence.NO_BODY).holds(() -> Refusal.bodies(PlanetDrive::printTrain));
        Sentence.of(54, "Writes the train of a body to the output, in place of what it had: for each part its driver,"
                + " then \"/\" (gear) or \"o\" (ring) and the driven gear, or the idler and \"i\"; \"*\" between two"
                + " parts; then \"=\", the numerator, \":\" and the denominator of the ratio of the body.",
                "Returns the number of bytes.").holds(() -> {
            PlanetDrive drive = Check.driveOf("body a period 100;body b period 100 on a;body c period 100 on a;"
                    + "train a gear 8 100 idler 9 ring 100 8 idler 100;train b idler 8;");
            written(drive, drive.printTrain(0), "8/100*9i*100o8*100i=-1:1");
            written(drive, drive.printTrain(1), "8i=-2:1");
            written(drive, drive.printTrain(2), "=-1:1");
            drive.removePart(0);
            written(drive, drive.printTrain(1), "8i=0:1");
            drive.copyTrain(2, 0);
            written(drive, drive.printTrain(2), "=0:1");
            written(drive, drive.printTrain(0), "=0:1");
            drive.addPart(0, 1, 100, 8);
            drive.addPart(0, 1, 100, 9);
            written(drive, drive.printTrain(0), "100o8*100o9=1250:9");
        });
    }

    private static void tellsBytes() {
        Sentence.of(55, "Returns the byte; -1 if there is no such byte.", "- `index`: index of the byte, from 0")
                .holds(() -> {
                    for (int index : new int[] {0, 1, -1, 899, Integer.MIN_VALUE, Integer.MAX_VALUE}) {
                        Check.equal("byte " + index + " of no output", new PlanetDrive().outputByte(index), -1);
                    }
                    PlanetDrive drive = Check.driveOf(BODIES);
                    drive.report(2000);
                    int length = drive.printTrain(2);
                    Check.equal("the first", drive.outputByte(0), '8');
                    Check.equal("the last", drive.outputByte(length - 1), '1');
                    for (int index : new int[] {length, length + 1, 899, 1024, 65536, -1, -length, Integer.MIN_VALUE,
                        Integer.MAX_VALUE}) {
                        Check.equal("byte " + index, drive.outputByte(index), -1);
                    }
                    longestOutput();
                });
    }

    /** 40 years with errors of 15 digits and a sign: no output is longer. */
    private static void longestOutput() {
        PlanetDrive drive = Check.driveOf("start 2400;body c period 100;body a period 100 on c;"
                + "train c gear 100 8 ring 100 8;train a gear 100 8 ring 100 8;");
        int length = drive.printErrors(1, 3360, 3399, 1);
        StringBuilder text = new StringBuilder();
        for (int year = 3360; year <= 3399; year++) {
            text.append(year).append(':').append(-627L * 648000 * Exact.endOf(2400, year)).append(';');
        }
        String due = text.toString();
        Check.equal("bytes", length, due.length());
        Check.equal("bytes of 40 years", length, 40 * 22);
        for (int index = 0; index < 20; index++) {
            Check.equal("byte " + index, drive.outputByte(index), due.charAt(index));
            int other = length - 1 - index;
            Check.equal("byte " + other, drive.outputByte(other), due.charAt(other));
        }
        Check.equal("behind the last", drive.outputByte(length), -1);
    }
}
