/** The sentences about backlash, drum and lag: promises 36 to 38 and the description. */
final class BacklashSentences {
    private static final int DESCRIPTION = Sentence.DESCRIPTION;
    // 97/98 - 98/99 and -97/98 + 98/99 are -1/9702 and 1/9702: 133.58 arcseconds a day.
    private static final String SLOW_BACK = "body c period 100;body a period 100 on c;"
            + "train c ring 97 98;train a gear 98 99;";
    private static final String SLOW_FORTH = "body c period 100;body a period 100 on c;"
            + "train c gear 97 98;train a ring 98 99;";

    private BacklashSentences() {
    }

    static void all() {
        bodies();
        meshes();
        sums();
        drums();
        lags();
        shown();
        changes();
    }

    private static void bodies() {
        Sentence.of(36, Sentence.NO_BODY).holds(() -> Refusal.bodies(PlanetDrive::backlash));
        Sentence.of(37, Sentence.NO_BODY).holds(() -> Refusal.bodies(PlanetDrive::lag));
        Sentence.of(38, Sentence.NO_BODY).holds(() -> Refusal.bodies(PlanetDrive::shown));
    }

    private static PlanetDrive withTrain(int slack, String parts) {
        String train = parts.isEmpty() ? "" : "train a " + parts + ";";
        return Check.driveOf("slack " + slack + ";body a period 100;" + train);
    }

    private static void meshes() {
        Sentence.of(DESCRIPTION, "Each part of a train is one mesh, but an idler is two.").holds(() -> {
            String[] parts = {"", "gear 8 8", "ring 8 8", "idler 8", "gear 8 8 ring 8 8", "idler 8 gear 8 8",
                "gear 8 8 idler 8 ring 8 8 idler 8", "idler 8 idler 8 idler 8 idler 8"};
            int[] due = {0, 1, 1, 2, 2, 3, 6, 8};
            for (int n = 0; n < parts.length; n++) {
                PlanetDrive drive = withTrain(999, parts[n]);
                Check.equal("meshes of " + parts[n], drive.body(0, 5), due[n]);
                Check.equal("backlash of " + parts[n], drive.backlash(0), due[n] * 999);
            }
        });
    }

    private static void sums() {
        Sentence.of(DESCRIPTION, "The backlash of a pointer is the sum, over all meshes of its own train, of the slack"
                + " times the product of the ratios (without signs) of all gears and rings behind the part to which the"
                + " mesh belongs.").holds(() -> {
            Check.equal("no train", withTrain(999, "").backlash(0), 0);
            Check.equal("no slack", withTrain(0, "gear 100 8 idler 8 gear 100 8 idler 8").backlash(0), 0);
            Check.equal("a part's own ratio does not count", withTrain(60, "gear 100 8").backlash(0), 60);
            Check.equal("that behind it does", withTrain(60, "gear 100 8 gear 20 10").backlash(0), 180);
            Check.equal("an idler turns nothing smaller", withTrain(60, "gear 20 10 idler 8").backlash(0), 180);
            Check.equal("two meshes in front", withTrain(60, "idler 8 gear 20 10").backlash(0), 300);
            Check.equal("three behind each other", withTrain(10, "idler 8 gear 9 8 ring 20 10 idler 8").backlash(0),
                    20 * 2 * 9 / 8 + 10 * 2 + 10 + 20);
            Check.equal("the greatest of all", withTrain(999, "idler 8 idler 8 gear 100 8 ring 100 8").backlash(0),
                    637861);
            Check.equal("the least of two", withTrain(1, "gear 8 100 gear 8 100").backlash(0), 1);
        });
        Sentence.of(DESCRIPTION, "The sum is exact and then rounded down.").holds(() -> {
            // 45 * 3/10 + 45 is 58.5.
            Check.equal("a half", withTrain(45, "gear 8 12 ring 30 100").backlash(0), 58);
            // 90 * 5/4 + 45 * 3/2 + 90 * 3/2 + 45 is 360, but 112 + 67 + 135 + 45 is 359.
            Check.equal("two halves", withTrain(45, "idler 9 gear 10 12 idler 12 gear 12 8").backlash(0), 360);
            // 99 / 100 behind the idler and nothing behind the ring.
            Check.equal("just below a whole", withTrain(1, "ring 50 50 ring 99 100").backlash(0), 1);
            Check.equal("a whole", withTrain(1, "ring 50 50 ring 100 100").backlash(0), 2);
        });
        Sentence.of(DESCRIPTION, "The backlash of a carrier does not matter.").holds(() -> {
            PlanetDrive drive = Check.driveOf("slack 999;body c period 100;body a period 100 on c;"
                    + "body b period 100 on c;train c idler 8 gear 100 8 ring 100 8;train a ring 10 10;");
            Check.equal("own train", drive.backlash(1), 999);
            Check.equal("no own train", drive.backlash(2), 0);
            drive.crank(9);
            drive.crank(8);
            Check.equal("lag of no own train", drive.lag(2), 0);
            drive.removePart(0);
            Check.equal("another train of the carrier", drive.backlash(1), 999);
        });
    }

    private static int lagBehind(String text, int slack, int... days) {
        PlanetDrive drive = Check.driveOf(text);
        drive.setSlack(slack);
        for (int day : days) {
            drive.crank(day);
        }
        return drive.lag(1);
    }

    private static void drums() {
        Sentence.of(DESCRIPTION, "The drum of a pointer by a day is its turns in arcseconds, rounded down (toward"
                + " negative infinity).").holds(() -> {
            // Back: -134, -268 and -401 by the days 1, 2 and 3; forth: 133, 267 and 400.
            Check.equal("back by day 1", lagBehind(SLOW_BACK, 999, 1), 134);
            Check.equal("back by day 2", lagBehind(SLOW_BACK, 999, 2), 268);
            Check.equal("back by day 3", lagBehind(SLOW_BACK, 999, 3), 401);
            Check.equal("forth from day 1", lagBehind(SLOW_FORTH, 999, 1, 0), 133);
            Check.equal("forth from day 2", lagBehind(SLOW_FORTH, 999, 2, 0), 267);
            Check.equal("forth from day 2 to 1", lagBehind(SLOW_FORTH, 999, 2, 1), 134);
            Check.equal("forth from day 3", lagBehind(SLOW_FORTH, 999, 3, 0), 400);
            // Whole turns on day 9702.
            Check.equal("back to a whole turn", lagBehind(SLOW_BACK, 999, 9701, 0, 9701, 9702), 999);
            Check.equal("from a whole turn", lagBehind(SLOW_BACK, 999, 9702, 9701), 999 - 133);
            Check.equal("behind a whole turn", lagBehind(SLOW_BACK, 999, 9703, 9702), 999 - 134);
        });
        Sentence.of(DESCRIPTION, "When the crank is turned from one day to another one, each pointer's drum changes by"
                + " some difference (both by the trains as they are then).").holds(() -> {
            PlanetDrive drive = Check.driveOf("body a period 100;train a ring 10 20;");
            drive.crank(10);
            drive.removePart(0);
            drive.addPart(0, 1, 10, 30);
            drive.crank(11);
            Check.equal("forth by a slower train", drive.lag(0), 0);
            drive.removePart(0);
            drive.addPart(0, 1, 10, 20);
            drive.crank(10);
            Check.equal("back by a faster train", drive.lag(0), 60);
            drive.crank(10);
            Check.equal("to the same day", drive.lag(0), 60);
            // The carrier's train counts as it is then, too.
            PlanetDrive carried = Check.driveOf("slack 999;" + SLOW_BACK);
            carried.crank(3);
            Check.equal("lag on the carrier", carried.lag(1), 401);
            carried.addPart(0, 2, 8, 0);
            carried.addPart(0, 2, 8, 0);
            carried.crank(4);
            Check.equal("on a carrier that turns alike", carried.lag(1), 401 + 134);
            carried.removePart(0);
            carried.crank(3);
            Check.equal("on a carrier that turns back", carried.lag(1), 0);
        });
    }

    private static void lags() {
        Sentence.of(DESCRIPTION, "The lag of a pointer is 0 to its backlash.").holds(() -> {
            PlanetDrive drive = Drives.full();
            for (int n = 0; n < 6; n++) {
                drive.crank(n % 2 == 0 ? 400000 : 0);
                for (int body = 0; body < 8; body++) {
                    int lag = drive.lag(body);
                    Check.isTrue("lag " + lag + " of " + body, lag >= 0 && lag <= drive.backlash(body));
                    Check.isTrue("at one of the ends", lag == 0 || lag == drive.backlash(body));
                }
            }
            Check.equal("at first", Drives.fresh().count(4), 0);
            Check.equal("without slack", lagBehind(SLOW_BACK, 0, 5), 0);
        });
        Sentence.of(DESCRIPTION, "If the difference is positive, the lag decreases by it, but not below 0; if it is"
                + " negative, the lag increases by its absolute value, but not above the backlash.").holds(() -> {
            Check.equal("just not up to the backlash", lagBehind(SLOW_BACK, 135, 1), 134);
            Check.equal("just up to the backlash", lagBehind(SLOW_BACK, 134, 1), 134);
            Check.equal("not above the backlash", lagBehind(SLOW_BACK, 133, 1), 133);
            Check.equal("in two steps", lagBehind(SLOW_BACK, 267, 1, 2), 267);
            Check.equal("decreases", lagBehind(SLOW_BACK, 999, 2, 1), 134);
            Check.equal("just down to 0", lagBehind(SLOW_BACK, 999, 2, 1, 0), 0);
            Check.equal("not below 0", lagBehind(SLOW_BACK, 133, 1, 0), 0);
            Check.equal("just not down to 0", lagBehind(SLOW_BACK, 999, 9702, 9701, 9698, 9695), 999 - 133 - 401 - 401);
            Check.equal("by 0", lagBehind(SLOW_BACK, 999, 2, 2), 268);
            Check.equal("from 0 up at once", lagBehind(SLOW_BACK, 999, 2, 0, 1), 134);
            Check.equal("far above", lagBehind(SLOW_BACK, 999, 400000), 999);
            Check.equal("far below", lagBehind(SLOW_BACK, 999, 400000, 0), 0);
        });
    }

    private static void shown() {
        Sentence.of(DESCRIPTION, "What a pointer shows is the angle of its drum plus its lag: (drum + lag) modulo"
                + " 1296000.").holds(() -> {
            PlanetDrive drive = Check.driveOf("slack 999;" + SLOW_BACK);
            int[][] due = {{0, 0}, {1, 0}, {2, 0}, {100, 1283640}, {9702, 999}, {9703, 865}, {9701, 865}, {9700, 865}};
            for (int[] row : due) {
                drive.crank(row[0]);
                Check.equal("shown on day " + row[0], drive.shown(1), row[1]);
                Check.equal("the sum on day " + row[0], drive.shown(1),
                        Math.floorMod(Exact.floored(-1, 9702, row[0]) + drive.lag(1), 1296000));
            }
            drive.crank(9703);
            Check.equal("the angle in front of the turn", drive.angle(1, 9703), 1295866);
            Check.equal("the sum behind the turn", drive.shown(1), 865);
        });
        Sentence.of(38, "Returns what a pointer shows at the day at which the crank stands.").holds(() -> {
            PlanetDrive drive = Check.driveOf("body a period 100;body b period 100;body c period 100;"
                    + "train a ring 10 70;train b gear 10 70;");
            Check.equal("day 0", drive.shown(0), 0);
            drive.crank(1);
            Check.equal("forward", drive.shown(0), 185142);
            Check.equal("backward", drive.shown(1), 1110857 + 60);
            Check.equal("without a train", drive.shown(2), 0);
            drive.crank(400000);
            Check.equal("the last day", drive.shown(0), drive.angle(0, 400000));
            drive.crank(0);
            Check.equal("back on day 0", drive.shown(0), 60);
        });
    }

    private static PlanetDrive lagging() {
        PlanetDrive drive = Check.driveOf("stock 20 40;body a period 100;body b period 100;body c period 100;"
                + "train a ring 10 20;train b ring 10 30;train c ring 20 40;");
        drive.crank(9);
        drive.crank(8);
        return drive;
    }

    private static void change(PlanetDrive drive, int kind) {
        switch (kind) {
            case 0 -> drive.build(0);
            case 1 -> drive.addPart(0, 2, 8, 0);
            case 2 -> drive.removePart(0);
            case 3 -> Check.equal("improves", drive.improve(0), 20);
            case 4 -> drive.copyTrain(1, 0);
            case 5 -> drive.swapTrains(0, 1);
            case 6 -> drive.setSlack(60);
            case 7 -> drive.addStock(50);
            default -> drive.removeStock(20);
        }
    }

    private static void changes() {
        Sentence.of(DESCRIPTION, "A change of a train sets the lag of its body to 0; a change of the slack sets all"
                + " lags to 0.").holds(() -> {
            int[][] due = {{0, 60, 60}, {0, 60, 60}, {0, 60, 60}, {0, 60, 60}, {0, 60, 60}, {0, 0, 60}, {0, 0, 0},
                {60, 60, 60}, {60, 60, 60}};
            for (int kind = 0; kind < due.length; kind++) {
                PlanetDrive drive = lagging();
                change(drive, kind);
                for (int body = 0; body < 3; body++) {
                    Check.equal("lag of " + body + " behind change " + kind, drive.lag(body), due[kind][body]);
                }
                drive.undo();
                for (int body = 0; body < 3; body++) {
                    Check.equal("lag of " + body + " undone", drive.lag(body), 60);
                }
            }
            PlanetDrive carried = Check.driveOf("slack 999;" + SLOW_BACK);
            carried.crank(1);
            carried.removePart(0);
            Check.equal("a change of the carrier's train", carried.lag(1), 134);
        });
    }
}
