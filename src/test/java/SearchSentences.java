import java.util.function.Supplier;

/** The sentences about searches for gears, fractions and meetings: promises 25 to 28, 40, 48 and 49. */
final class SearchSentences {
    private static final String NO_STOCK = "Returns the number of teeth; -1 if the stock has fewer than two numbers.";
    private static final String NO_DAY_OR_ORB = "Throws `IllegalArgumentException` if day or orb is out of range";
    private static final String AN_ORB = "- `orb`: arcseconds, 0 to 648000";
    private static final String TWO_TERMS = "- `what`: 0 its numerator, 1 its denominator";

    private SearchSentences() {
    }

    static void all() {
        pairs();
        trains();
        convergents();
        fractions();
        meetings();
        meetingTimes();
        aligned();
    }

    private static void pair(String text, int a, int b) {
        PlanetDrive drive = Check.driveOf(text);
        int last = drive.count(0) - 1;
        Check.equal("A of " + text, drive.bestPair(last, 0), a);
        Check.equal("B of " + text, drive.bestPair(last, 1), b);
    }

    private static void pairs() {
        Sentence.of(25, Sentence.NO_BODY).holds(() -> Refusal.bodies((drive, body) -> drive.bestPair(body, 0)));
        Sentence.of(25, "- `what`: 0 A, 1 B", Sentence.NO_WHAT).holds(() -> {
            Refusal.within(0, 1, (drive, what) -> drive.bestPair(1, what));
            Refusal.range(() -> Check.driveOf("body a period 100;"), 0, 1, Refusal.ARGUMENT,
                    (drive, what) -> drive.bestPair(0, what));
        });
        Sentence.of(25, NO_STOCK).holds(() -> {
            pair("body a period 100;", -1, -1);
            pair("stock 8;body a period 100;", -1, -1);
            pair("stock 8 9;body a period 100;", 8, 9);
            PlanetDrive drive = Check.driveOf("stock 8 9;body a period 100;");
            drive.removeStock(8);
            Check.equal("one is left", drive.bestPair(0, 0), -1);
            drive.undo();
            Check.equal("two again", drive.bestPair(0, 1), 9);
        });
        Sentence.of(25, "Finds the best pair of gears of the stock for a body: of all pairs of two different numbers A"
                + " and B, that with which the absolute value of A / B differs least from the absolute value of the own"
                + " ratio that the body should have (what it should make a day, less what its carrier should make if it"
                + " has one).").holds(() -> {
            // 1 would be the best, but for A and B are different.
            pair("stock 50 99 100;body a period 100;", 99, 100);
            pair("stock 50 99 100;body a period 100 retro;", 99, 100);
            pair("stock 8 100;body a period 9999999;", 8, 100);
            // 1/2 - 1, 1/2 + 1, -1/2 - 1, -1/2 + 1, and 1 - 1.
            pair("stock 10 15 20;body c period 100;body a period 200 on c;", 10, 20);
            pair("stock 10 15 20;body c period 100 retro;body a period 200 on c;", 15, 10);
            pair("stock 10 15 20;body c period 100;body a period 200 retro on c;", 15, 10);
            pair("stock 10 15 20;body c period 100 retro;body a period 200 retro on c;", 10, 20);
            pair("stock 10 15 20;body c period 100;body a period 100 on c;", 10, 20);
            // 16 numbers: the greatest quotient is due, then the least.
            pair("stock 8 9 10 11 12 13 14 15 16 17 18 19 20 21 22 100;body c period 100;"
                    + "body a period 100 retro on c;", 16, 8);
            pair("stock 8 9 10 11 12 13 14 15 16 17 18 19 20 21 22 100;body a period 9999999;", 8, 100);
        });
        Sentence.of(25, "On a tie the pair with the smaller sum, then that with the smaller A.").holds(() -> {
            pair("stock 8 10 16 20;body a period 200;", 8, 16);
            pair("stock 12 18 20 30;body a period 150;", 12, 18);
            pair("stock 9 12 30 40;body a period 125;", 9, 12);
            pair("stock 10 20 40;body c period 100 retro;body a period 160 on c;", 20, 10);
            // 13/12 is just between 8/12 and 12/8.
            pair("stock 8 12;body c period 1200 retro;body a period 100 on c;", 8, 12);
            // 3/4 is just between 10/20 and 20/20, which is no pair; 10/20 and 20/10 are not alike.
            pair("stock 10 20;body a period 100;", 10, 20);
        });
    }

    private static void train(String text, int a, int b, int c, int d) {
        PlanetDrive drive = Check.driveOf(text);
        int last = drive.count(0) - 1;
        int[] due = {a, b, c, d};
        for (int what = 0; what < 4; what++) {
            Check.equal("number " + what + " of " + text, drive.bestTrain(last, what), due[what]);
        }
    }

    private static void trains() {
        Sentence.of(26, Sentence.NO_BODY).holds(() -> Refusal.bodies((drive, body) -> drive.bestTrain(body, 3)));
        Sentence.of(26, "- `what`: 0 A, 1 B, 2 C, 3 D", Sentence.NO_WHAT).holds(() -> {
            Refusal.within(0, 3, (drive, what) -> drive.bestTrain(1, what));
            Refusal.range(() -> Check.driveOf("body a period 100;"), 0, 3, Refusal.ARGUMENT,
                    (drive, what) -> drive.bestTrain(0, what));
        });
        Sentence.of(26, NO_STOCK).holds(() -> {
            train("body a period 100;", -1, -1, -1, -1);
            train("stock 8;body a period 100;", -1, -1, -1, -1);
            train("stock 8 9;body a period 100;", 8, 9, 9, 8);
        });
        Sentence.of(26, "Finds the best two pairs of gears of the stock for a body, likewise: A / B * C / D, where A"
                + " differs from B, C from D, and (A, B) is not behind (C, D) in the order by first and then second"
                + " number.").holds(() -> {
            // (A, B) may be (C, D); 8/10 * 16/20 comes before 16/20 * 8/10.
            train("stock 10 20;body a period 400;", 10, 20, 10, 20);
            train("stock 10 20;body a period 400 retro;", 10, 20, 10, 20);
            train("stock 8 97 89 11;body a period 9999999;", 8, 97, 8, 97);
            // 4 is due, and 20/10 * 20/10 makes it.
            train("stock 10 20;body d period 100;body c period 100 retro;body a period 100 on c;", 10, 20, 20, 10);
            // 2 is due, and 9/4 is nearer to it than 1.
            train("stock 8 12;body c period 100 retro;body a period 100 on c;", 12, 8, 12, 8);
            // 16 numbers, and less than the least ratio of all is due.
            train("stock 8 9 10 11 12 13 14 15 16 17 18 19 20 21 22 100;body a period 9999999;", 8, 100, 8, 100);
            searchesInTurn();
        });
        Sentence.of(26, "On a tie the smaller sum of all four, then the smaller A, B, C and D, in this order.")
                .holds(() -> {
                    // The sum, where both make the same, and where one makes more and one less than is due.
                    train("stock 8 12 40;body c period 180 retro;body a period 200 on c;", 8, 12, 12, 8);
                    train("stock 8 10 24;body a period 800;", 8, 24, 8, 24);
                    train("stock 14 18 40;body a period 250;", 14, 40, 18, 14);
                    train("stock 8 12 24;body c period 160 retro;body a period 1200 on c;", 12, 8, 12, 24);
                    train("stock 9 12 15 30;body c period 900 retro;body a period 800 on c;", 9, 15, 12, 30);
                    train("stock 8 9 14 30;body c period 450 retro;body a period 1200 on c;", 8, 30, 9, 8);
                    train("stock 9 12 15 30;body c period 240 retro;body a period 1000 on c;", 9, 30, 15, 9);
                    // A: 8/12 * 12/8 against 12/8 * 12/8.
                    train("stock 8 12;body c period 160 retro;body a period 100 on c;", 8, 12, 12, 8);
                    train("stock 18 24;body c period 180 retro;body a period 120 on c;", 18, 24, 24, 18);
                    // B: 8/12 * 15/24 is 8/24 * 15/12; 8/10 * 10/16 and 8/18 * 10/8 are as far off.
                    train("stock 8 12 15 24;body a period 240;", 8, 12, 15, 24);
                    train("stock 8 10 16 18;body c period 400 retro;body a period 360 on c;", 8, 10, 10, 16);
                    // C, and with it D, for the sum is the same.
                    train("stock 10 30;body a period 180;", 10, 30, 10, 30);
                    train("stock 8 12;body c period 450 retro;body a period 200 on c;", 8, 12, 8, 12);
                });
    }

    /** What one search found does not matter for the next one. */
    private static void searchesInTurn() {
        String[] bodies = {"body a period 100;", "body b period 9999999;", "body c period 240;", "body d period 100;"};
        PlanetDrive drive = Check.driveOf("stock 8 12 15 24;" + String.join("", bodies));
        int[][] trains = {{8, 12, 12, 8}, {8, 24, 8, 24}, {8, 12, 15, 24}, {8, 12, 12, 8}};
        int[][] pairs = {{12, 15}, {8, 24}, {8, 24}, {12, 15}};
        for (int body = 0; body < 4; body++) {
            Check.equal("A of a pair for " + body, drive.bestPair(body, 0), pairs[body][0]);
            Check.equal("D of a train for " + body, drive.bestTrain(body, 3), trains[body][3]);
            Check.equal("B of a pair for " + body, drive.bestPair(body, 1), pairs[body][1]);
            Check.equal("B of a train for " + body, drive.bestTrain(body, 1), trains[body][1]);
        }
    }

    private static void convergents() {
        Sentence.of(27, Sentence.NO_BODY).holds(() -> Refusal.bodies((drive, body) -> drive.convergent(body, 0, 0)));
        Sentence.of(27, "- `index`: number of the convergent, from 0", TWO_TERMS, "Throws `IllegalArgumentException` if"
                + " index is negative or what is out of range").holds(() -> {
            Refusal.within(0, 1, (drive, what) -> drive.convergent(0, 0, what));
            Refusal.within(0, 1, (drive, what) -> drive.convergent(0, 1000, what));
            for (int index : new int[] {-1, -2, Integer.MIN_VALUE}) {
                Refusal.refuses("index " + index, Drives::rich, Refusal.ARGUMENT,
                        drive -> drive.convergent(0, index, 0));
            }
            for (int index : new int[] {0, 1, 99, Integer.MAX_VALUE}) {
                Refusal.takes("index " + index, Drives::rich, drive -> drive.convergent(0, index, 0));
            }
        });
        Sentence.of(27, "Returns the number; -1 if the continued fraction ends before.").holds(() -> {
            PlanetDrive drive = Check.driveOf("body a period 100;body b period 300 retro;body c period 250;"
                    + "body d period 9999999;body e period 9999901 retro;");
            long[][][] due = {{{1, 1}}, {{0, 1}, {1, 3}}, {{0, 1}, {1, 2}, {2, 5}},
                {{0, 1}, {1, 99999}, {1, 100000}, {100, 9999999}}, {{0, 1}, {1, 99999}, {100, 9999901}}};
            for (int body = 0; body < due.length; body++) {
                int end = due[body].length;
                for (int index = 0; index < end; index++) {
                    Check.equal("numerator", drive.convergent(body, index, 0), due[body][index][0]);
                    Check.equal("denominator", drive.convergent(body, index, 1), due[body][index][1]);
                }
                for (int index : new int[] {end, end + 1, end + 2, 100, Integer.MAX_VALUE}) {
                    Check.equal("no numerator " + index, drive.convergent(body, index, 0), -1);
                    Check.equal("no denominator " + index, drive.convergent(body, index, 1), -1);
                }
            }
        });
        Sentence.of(27, "Convergent 0 is the whole part.").holds(() -> {
            PlanetDrive drive = Check.driveOf("body a period 100;body b period 101;body c period 9999999 retro;");
            for (int body = 0; body < 3; body++) {
                Check.equal("whole part of " + body, drive.convergent(body, 0, 0), body == 0 ? 1 : 0);
                Check.equal("its denominator", drive.convergent(body, 0, 1), 1);
            }
        });
    }

    private static void fraction(int period, int limit, int top, int bottom) {
        for (String way : new String[] {"", " retro"}) {
            PlanetDrive drive = Check.driveOf("body a period " + period + way + ";");
            Check.equal("numerator for " + period + " to " + limit, drive.bestFraction(0, limit, 0), top);
            Check.equal("denominator for " + period + " to " + limit, drive.bestFraction(0, limit, 1), bottom);
        }
    }

    private static void fractions() {
        Sentence.of(28, Sentence.NO_BODY).holds(() -> Refusal.bodies((drive, body) -> drive.bestFraction(body, 9, 0)));
        Sentence.of(28, "- `limit`: 1 to 10000", TWO_TERMS,
                "Throws `IllegalArgumentException` if limit or what is out of range").holds(() -> {
            Refusal.within(1, 10000, (drive, limit) -> drive.bestFraction(0, limit, 1));
            Refusal.within(0, 1, (drive, what) -> drive.bestFraction(0, 5, what));
        });
        Sentence.of(28, "Finds the fraction with a denominator from 1 to a limit that differs least from 100 / period"
                + " of a body.").holds(() -> {
            fraction(100, 1, 1, 1);
            fraction(199, 1, 1, 1);
            fraction(201, 1, 0, 1);
            fraction(1000000, 9999, 1, 9999);
            fraction(1000000, 10000, 1, 10000);
            // 1/10000 against 0: just nearer, and just not.
            fraction(1999999, 9999, 0, 1);
            fraction(1999999, 10000, 1, 10000);
            fraction(2000001, 10000, 0, 1);
            fraction(9999999, 10000, 0, 1);
            fraction(8797, 5893, 33, 2903);
            fraction(8797, 5894, 67, 5894);
            fraction(8797, 8796, 67, 5894);
            fraction(8797, 8797, 100, 8797);
        });
        Sentence.of(28, "On a tie the one with the smaller denominator, then the smaller numerator.").holds(() -> {
            // 1/2 is as far from 0 as from 1; 1/4 as far from 0 as from 1/2; 3/4 as far from 1 as from 1/2.
            fraction(200, 1, 0, 1);
            fraction(400, 2, 0, 1);
            fraction(2000000, 10000, 0, 1);
            // 1/2 is 2/4 and so on.
            fraction(200, 10000, 1, 2);
            fraction(100, 10000, 1, 1);
            fraction(150, 10000, 2, 3);
        });
    }

    // Ratios 1/88, 521/11000, -1/70 and 1.
    private static PlanetDrive pointers() {
        return Check.driveOf("body a period 8797;body b period 2732 on a;body c period 7000 retro;body d period 100;"
                + "train a gear 10 88 gear 9 90;train b ring 9 100 gear 30 75 idler 20;"
                + "train c gear 10 70 ring 10 100;train d ring 20 20;");
    }

    private static void meetings() {
        Sentence.of(40, Sentence.NO_BODY_OR_OTHER).holds(() -> {
            Refusal.bodies((drive, body) -> drive.nextMeeting(body, 0, 0, 0));
            Refusal.bodies((drive, other) -> drive.nextMeeting(0, other, 0, 0));
        });
        Sentence.of(40, "- `day`: 0 to 390000", AN_ORB, NO_DAY_OR_ORB).holds(() -> {
            Refusal.within(0, 390000, (drive, day) -> drive.nextMeeting(0, 1, day, 0));
            Refusal.within(0, 648000, (drive, orb) -> drive.nextMeeting(0, 1, 0, orb));
        });
        Sentence.of(40, "Returns the first of the 10000 days behind day; -1 if there is none.").holds(() -> {
            PlanetDrive drive = Check.driveOf("body a period 100;body b period 100;body c period 100;"
                    + "body d period 100;train a gear 73 100 gear 89 100;train c gear 10 97 gear 10 89;"
                    + "train d ring 20 30;");
            Check.equal("the 10000th day", drive.nextMeeting(0, 1, 0, 0), 10000);
            Check.equal("not the day itself", drive.nextMeeting(0, 1, 10000, 0), 20000);
            Check.equal("the day behind", drive.nextMeeting(0, 1, 9999, 0), 10000);
            Check.equal("the last day of all", drive.nextMeeting(0, 1, 390000, 0), 400000);
            // These two meet each 25899 days.
            Check.equal("none", drive.nextMeeting(2, 3, 0, 0), -1);
            Check.equal("the 10001st day", drive.nextMeeting(2, 3, 15898, 0), -1);
            Check.equal("the 10000th day", drive.nextMeeting(2, 3, 15899, 0), 25899);
            Check.equal("the first day", drive.nextMeeting(2, 3, 25898, 0), 25899);
            Check.equal("with itself", drive.nextMeeting(2, 2, 7, 0), 8);
        });
        Sentence.of(40, "Finds the next day, behind some day, on which the pointers of two bodies are near each other,"
                + " without backlash: the smaller way round between their angles is at most an orb.").holds(() -> {
            PlanetDrive drive = pointers();
            // On day 1 the first is at 14727; on day 87 it is 14728 short of a turn, the other way round.
            Check.equal("at the orb", drive.nextMeeting(0, 3, 0, 14727), 1);
            Check.equal("beyond the orb", drive.nextMeeting(0, 3, 0, 14726), 88);
            Check.equal("at the orb from below", drive.nextMeeting(0, 3, 86, 14728), 87);
            Check.equal("beyond the orb from below", drive.nextMeeting(0, 3, 86, 14727), 88);
            Check.equal("either one first", drive.nextMeeting(3, 0, 86, 14728), 87);
            Check.equal("half a turn is always near", drive.nextMeeting(1, 2, 77, 648000), 78);
            drive.setSlack(999);
            drive.crank(88);
            drive.crank(87);
            Check.equal("lag", drive.lag(3), 999);
            Check.equal("without backlash", drive.nextMeeting(0, 3, 86, 14727), 88);
        });
    }

    private static void meetingTimes() {
        Sentence.of(48, Sentence.NO_BODY_OR_OTHER).holds(() -> {
            Refusal.bodies((drive, body) -> drive.meetingTime(body, 0, 0));
            Refusal.bodies((drive, other) -> drive.meetingTime(0, other, 0));
        });
        Sentence.of(48, "- `what`: 0 the numerator, 1 the denominator", Sentence.NO_WHAT).holds(() -> {
            Refusal.within(0, 1, (drive, what) -> drive.meetingTime(0, 1, what));
            Refusal.within(0, 1, (drive, what) -> drive.meetingTime(1, 1, what));
        });
        Sentence.of(48, "Returns the number; -1 if the ratios are the same.").holds(() -> {
            PlanetDrive drive = Check.driveOf("body a period 100;body b period 200;body c period 300 on b;"
                    + "body d period 100;body e period 100;train a ring 10 20;train b gear 10 20 idler 9;"
                    + "train d gear 10 20;");
            int[][] same = {{0, 0}, {0, 1}, {1, 0}, {1, 2}, {2, 0}, {4, 4}};
            for (int[] bodies : same) {
                for (int what = 0; what < 2; what++) {
                    Check.equal("the same ratios", drive.meetingTime(bodies[0], bodies[1], what), -1);
                }
            }
            Check.equal("a turn a day", drive.meetingTime(0, 3, 0), 1);
            Check.equal("a turn a day", drive.meetingTime(0, 3, 1), 1);
            Check.equal("against one that stands", drive.meetingTime(4, 3, 0), 2);
            Check.equal("against one that stands", drive.meetingTime(4, 3, 1), 1);
        });
        Sentence.of(48, "Returns the time between two meetings of the pointers of two bodies in days, as a fraction in"
                + " lowest terms: 1 divided by the absolute value of the difference of their ratios.").holds(() -> {
            PlanetDrive drive = pointers();
            int[][] due = {{0, 1, 250, 9}, {0, 2, 3080, 79}, {0, 3, 88, 87}, {2, 3, 70, 71}};
            for (int[] row : due) {
                Check.equal("numerator", drive.meetingTime(row[0], row[1], 0), row[2]);
                Check.equal("denominator", drive.meetingTime(row[0], row[1], 1), row[3]);
                Check.equal("numerator the other way round", drive.meetingTime(row[1], row[0], 0), row[2]);
                Check.equal("denominator the other way round", drive.meetingTime(row[1], row[0], 1), row[3]);
            }
            PlanetDrive fast = Check.driveOf("body a period 100;body b period 100 on a;body c period 100;"
                    + "body d period 100 on c;train a ring 100 8 ring 100 8;train b ring 100 8 ring 100 8;"
                    + "train c gear 100 8 ring 100 8;train d gear 100 8 ring 100 8;");
            Check.equal("the shortest of all", fast.meetingTime(1, 3, 0), 1);
            Check.equal("the shortest of all", fast.meetingTime(1, 3, 1), 625);
            PlanetDrive large = Check.driveOf("body a period 100;body b period 100 on a;body c period 100;"
                    + "body d period 100 on c;train a gear 97 89 ring 97 83;train b gear 79 97 ring 83 89;"
                    + "train c gear 71 73 ring 89 79;train d gear 67 99 ring 73 100;");
            Check.equal("large numerator", large.meetingTime(1, 3, 0), 40909576088700L);
            Check.equal("large denominator", large.meetingTime(3, 1, 1), 18143155227317L);
        });
    }

    private static void aligned() {
        Sentence.of(49, Sentence.NO_BODY).holds(() -> Refusal.bodies((drive, body) -> drive.aligned(body, 0, 0)));
        Sentence.of(49, Sentence.A_DAY, AN_ORB, NO_DAY_OR_ORB).holds(() -> {
            Refusal.within(0, 400000, (drive, day) -> drive.aligned(0, day, 0));
            Refusal.within(0, 648000, (drive, orb) -> drive.aligned(0, 0, orb));
        });
        Sentence.of(49, "Returns the set of the bodies, the body itself included, as a bit mask: bit k stands for body"
                + " k.").holds(() -> {
            // By day 1 the eight stand at 0, 1/2, 1/4, 3/4, 1/8, 7/8, 3/8 and 0 of a turn.
            Supplier<PlanetDrive> made = () -> Check.driveOf("body a period 100;body b period 100;body c period 100;"
                    + "body d period 100;body e period 100;body f period 100;body g period 100;body h period 100;"
                    + "train b ring 10 20;train c ring 10 40;train d gear 10 40;train e ring 10 80;train f gear 10 80;"
                    + "train g ring 30 80;train h ring 8 8;");
            PlanetDrive drive = made.get();
            for (int body = 0; body < 8; body++) {
                Check.equal("all by day 0", drive.aligned(body, 0, 0), 255);
                Check.equal("all within half a turn", drive.aligned(body, 1, 648000), 255);
                Check.equal("itself", drive.aligned(body, 1, 0), body == 0 || body == 7 ? 129 : 1 << body);
                Check.equal("all by the last day", drive.aligned(body, 400000, 0), 255);
            }
            Check.equal("an eighth, both ways", drive.aligned(0, 1, 162000), 129 + 16 + 32);
            Check.equal("less than an eighth", drive.aligned(0, 1, 161999), 129);
            Check.equal("less than half a turn", drive.aligned(0, 1, 647999), 255 - 2);
            Check.equal("over the turn", drive.aligned(5, 1, 162000), 32 + 129 + 8);
        });
        Sentence.of(49, "Returns the bodies whose pointers are near that of a body by a day, without backlash: the"
                + " smaller way round between their angles is at most an orb.").holds(() -> {
            PlanetDrive drive = pointers();
            Check.equal("at the orb", drive.aligned(0, 1, 14727), 9);
            Check.equal("beyond the orb", drive.aligned(0, 1, 14726), 1);
            Check.equal("at the orb from below", drive.aligned(0, 87, 14728), 9);
            Check.equal("beyond the orb from below", drive.aligned(0, 87, 14727), 1);
            Check.equal("either one first", drive.aligned(3, 87, 14728), 9);
            drive.setSlack(999);
            drive.crank(2);
            drive.crank(1);
            Check.equal("lag", drive.lag(3), 999);
            Check.equal("without backlash", drive.aligned(0, 1, 14727), 9);
        });
    }
}
