import java.util.function.Supplier;

/** The sentences about changes of trains, stock, slack and crank: promises 29 to 35 and 42 to 44. */
final class ChangeSentences {
    private static final String THE_SAME = "Throws `IllegalArgumentException` if both are the same";
    private static final String FIFTEEN = "stock 8 9 10 11 12 13 14 15 16 17 18 19 20 21 22;";
    private static final String SIXTEEN = "stock 8 9 10 11 12 13 14 15 16 17 18 19 20 21 22 100;";

    private ChangeSentences() {
    }

    static void all() {
        builds();
        addsParts();
        refusesParts();
        removesParts();
        addsStock();
        removesStock();
        setsSlack();
        cranks();
        improves();
        swaps();
        copies();
    }

    private static String train(PlanetDrive drive, int body) {
        StringBuilder text = new StringBuilder();
        for (int part = 0; part < drive.body(body, 3); part++) {
            text.append(part > 0 ? " " : "").append(drive.part(body, part, 1));
            text.append("/oi".charAt(drive.part(body, part, 0)));
            text.append(drive.part(body, part, 0) == 2 ? "" : drive.part(body, part, 2));
        }
        return text.toString();
    }

    private static String stock(PlanetDrive drive) {
        StringBuilder text = new StringBuilder();
        for (int index = 0; index < drive.count(1); index++) {
            text.append(index > 0 ? " " : "").append(drive.stock(index));
        }
        return text.toString();
    }

    private static String withoutChanges(PlanetDrive drive) {
        return Twins.standing(drive).replaceFirst("^(counts( \\d+){5}) \\d+", "$1");
    }

    /** A change counts, and undoing it brings all back; behind 12 changes too, and where it changes nothing. */
    private static void isChange(int promise, String quote, Twins.Call call) {
        Sentence.of(promise, quote).holds(() -> {
            PlanetDrive rich = Drives.rich();
            String before = withoutChanges(rich);
            call.on(rich);
            Check.equal("changes", rich.count(5), 4);
            Check.equal("undone", rich.undo(), 3);
            Check.equal("all as before", withoutChanges(rich), before);
            PlanetDrive full = Drives.full();
            before = withoutChanges(full);
            call.on(full);
            Check.equal("changes of 12", full.count(5), 12);
            Check.equal("undone of 12", full.undo(), 11);
            Check.equal("all as before 12", withoutChanges(full), before);
        });
    }

    private static void builds() {
        isChange(29, Sentence.A_CHANGE, drive -> drive.build(0));
        Sentence.of(29, Sentence.NO_BODY).holds(() -> Refusal.bodies(PlanetDrive::build));
        Sentence.of(29, "Throws `IllegalStateException` if the stock has fewer than two numbers").holds(() -> {
            String body = "body a period 200;train a ring 8 9;";
            Refusal.refuses("no number", () -> Check.driveOf(body), Refusal.STATE, drive -> drive.build(0));
            Refusal.refuses("one number", () -> Check.driveOf("stock 8;" + body), Refusal.STATE,
                    drive -> drive.build(0));
            Refusal.takes("two numbers", () -> Check.driveOf("stock 8 9;" + body), drive -> drive.build(0));
            Refusal.refuses("one of two", () -> {
                PlanetDrive drive = Check.driveOf("stock 8 9;" + body);
                drive.removeStock(9);
                return drive;
            }, Refusal.STATE, drive -> drive.build(0));
        });
        Sentence.of(29, "Builds the best two pairs (see bestTrain) into the train of a body, in place of its parts: two"
                + " parts gear, and an idler of the smallest number of the stock behind them if the own ratio that the"
                + " body should have is negative.", "Returns the number of parts of the train.").holds(() -> {
            String bodies = "body fast period 100;body back period 100 retro;";
            String[] rest = {"body a period 400;", "body a period 400 retro;", "body a period 100 on fast;",
                "body a period 200 on fast;", "body a period 100 on back;", "body a period 100 retro on back;",
                "body a period 200 retro on back;"};
            boolean[] idler = {false, true, false, true, false, false, false};
            for (int n = 0; n < rest.length; n++) {
                String text = "stock 30 10 20;" + bodies + rest[n] + "train a idler 8 ring 9 9 idler 8 gear 9 9;";
                PlanetDrive drive = Check.driveOf(text);
                PlanetDrive asked = Check.driveOf(text);
                StringBuilder due = new StringBuilder();
                due.append(asked.bestTrain(2, 0)).append('/').append(asked.bestTrain(2, 1)).append(' ');
                due.append(asked.bestTrain(2, 2)).append('/').append(asked.bestTrain(2, 3));
                Check.equal("parts of " + rest[n], drive.build(2), idler[n] ? 3 : 2);
                Check.equal("train of " + rest[n], train(drive, 2), due + (idler[n] ? " 10i" : ""));
                Check.equal("driven by the idler of " + rest[n], idler[n] ? drive.part(2, 2, 2) : 0, 0);
            }
        });
    }

    private static Supplier<PlanetDrive> withTrain(String parts) {
        String train = parts.isEmpty() ? "" : "train a " + parts + ";";
        return () -> Check.driveOf("body a period 100;body b period 100;" + train);
    }

    private static void addsParts() {
        isChange(30, Sentence.A_CHANGE, drive -> drive.addPart(0, 2, 8, 0));
        Sentence.of(30, Sentence.NO_BODY).holds(() -> Refusal.bodies((drive, body) -> drive.addPart(body, 2, 8, 0)));
        Sentence.of(30, "- `kind`: 0 gear, 1 ring, 2 idler", "Throws `IllegalArgumentException` if kind, driver or"
                + " driven is out of range").holds(() -> {
            for (int driven : new int[] {0, 8}) {
                for (int kind : new int[] {-1, 3, Integer.MIN_VALUE, Integer.MAX_VALUE}) {
                    Refusal.refuses("kind " + kind, withTrain(""), Refusal.ARGUMENT,
                            drive -> drive.addPart(0, kind, 8, driven));
                }
            }
            Refusal.takes("a gear", withTrain(""), drive -> drive.addPart(0, 0, 8, 8));
            Refusal.takes("a ring", withTrain(""), drive -> drive.addPart(0, 1, 8, 8));
            Refusal.takes("an idler", withTrain(""), drive -> drive.addPart(0, 2, 8, 0));
        });
        Sentence.of(30, "- `driver`: number of teeth, 8 to 100").holds(() -> {
            for (int kind = 0; kind < 3; kind++) {
                int each = kind;
                Refusal.range(withTrain(""), 8, 100, Refusal.ARGUMENT,
                        (drive, driver) -> drive.addPart(0, each, driver, each == 2 ? 0 : 50));
                Refusal.refuses("no teeth", withTrain(""), Refusal.ARGUMENT,
                        drive -> drive.addPart(0, each, 0, each == 2 ? 0 : 50));
            }
        });
        Sentence.of(30, "- `driven`: number of teeth, 8 to 100; 0 for an idler").holds(() -> {
            for (int kind = 0; kind < 2; kind++) {
                int each = kind;
                Refusal.range(withTrain(""), 8, 100, Refusal.ARGUMENT,
                        (drive, driven) -> drive.addPart(0, each, 50, driven));
                Refusal.refuses("no teeth", withTrain(""), Refusal.ARGUMENT, drive -> drive.addPart(0, each, 50, 0));
            }
            Refusal.range(withTrain(""), 0, 0, Refusal.ARGUMENT, (drive, driven) -> drive.addPart(0, 2, 50, driven));
            Refusal.refuses("8 of an idler", withTrain(""), Refusal.ARGUMENT, drive -> drive.addPart(0, 2, 50, 8));
        });
        Sentence.of(30, "Adds a part to the end of a train.", "Returns the number of parts then.").holds(() -> {
            PlanetDrive drive = withTrain("").get();
            Check.equal("the first", drive.addPart(0, 0, 8, 100), 1);
            Check.equal("the second", drive.addPart(0, 2, 100, 0), 2);
            Check.equal("the third", drive.addPart(0, 1, 100, 8), 3);
            Check.equal("the fourth", drive.addPart(0, 2, 8, 0), 4);
            Check.equal("in their order", train(drive, 0), "8/100 100i 100o8 8i");
            Check.equal("the other train", train(drive, 1), "");
        });
    }

    private static void refusesParts() {
        Sentence.of(30, "Throws `IllegalStateException` if the train has 4 parts, or the part is no idler and it has 2"
                + " others that are none").holds(() -> {
            String[] fourParts = {"idler 8 idler 8 idler 8 idler 8", "gear 8 8 idler 8 idler 8 idler 8",
                "gear 8 8 idler 8 ring 8 8 idler 8"};
            for (String parts : fourParts) {
                Refusal.refuses("an idler behind " + parts, withTrain(parts), Refusal.STATE,
                        drive -> drive.addPart(0, 2, 8, 0));
                Refusal.refuses("a gear behind " + parts, withTrain(parts), Refusal.STATE,
                        drive -> drive.addPart(0, 0, 8, 8));
                Refusal.refuses("a ring behind " + parts, withTrain(parts), Refusal.STATE,
                        drive -> drive.addPart(0, 1, 8, 8));
            }
            String[] twoGears = {"gear 8 8 gear 8 8", "ring 8 8 ring 8 8", "ring 8 8 gear 8 8",
                "idler 8 gear 8 8 ring 8 8"};
            for (String parts : twoGears) {
                Refusal.refuses("a gear behind " + parts, withTrain(parts), Refusal.STATE,
                        drive -> drive.addPart(0, 0, 8, 8));
                Refusal.refuses("a ring behind " + parts, withTrain(parts), Refusal.STATE,
                        drive -> drive.addPart(0, 1, 8, 8));
                Refusal.takes("an idler behind " + parts, withTrain(parts), drive -> drive.addPart(0, 2, 8, 0));
            }
            String[] oneGear = {"gear 8 8", "ring 8 8", "idler 8 gear 8 8 idler 8", "idler 8 idler 8 idler 8"};
            for (String parts : oneGear) {
                Refusal.takes("a gear behind " + parts, withTrain(parts), drive -> drive.addPart(0, 0, 8, 8));
                Refusal.takes("a ring behind " + parts, withTrain(parts), drive -> drive.addPart(0, 1, 8, 8));
                Refusal.takes("an idler behind " + parts, withTrain(parts), drive -> drive.addPart(0, 2, 8, 0));
            }
        });
    }

    private static void removesParts() {
        isChange(31, Sentence.A_CHANGE, drive -> drive.removePart(0));
        Sentence.of(31, Sentence.NO_BODY).holds(() -> Refusal.bodies(PlanetDrive::removePart));
        Sentence.of(31, "Throws `IllegalStateException` if the train has no parts").holds(() -> {
            Refusal.refuses("never had one", Drives::rich, Refusal.STATE, drive -> drive.removePart(2));
            Refusal.refuses("the only one is gone", () -> {
                PlanetDrive drive = withTrain("idler 8").get();
                drive.removePart(0);
                return drive;
            }, Refusal.STATE, drive -> drive.removePart(0));
            Refusal.takes("the only one", withTrain("idler 8"), drive -> drive.removePart(0));
        });
        Sentence.of(31, "Removes the last part of a train.", "Returns the number of parts then.").holds(() -> {
            PlanetDrive drive = withTrain("gear 8 9 idler 10 ring 11 12 idler 13").get();
            String[] due = {"", "8/9", "8/9 10i", "8/9 10i 11o12"};
            for (int parts = 3; parts >= 0; parts--) {
                Check.equal("parts", drive.removePart(0), parts);
                Check.equal("train", train(drive, 0), due[parts]);
            }
            drive.addPart(0, 1, 20, 30);
            Check.equal("what comes then is the first", train(drive, 0), "20o30");
        });
    }

    private static void addsStock() {
        Sentence.of(32, Sentence.A_CHANGE).holds(() -> {
            PlanetDrive drive = Check.driveOf(FIFTEEN);
            drive.addStock(100);
            Check.equal("changes", drive.count(5), 1);
            Check.equal("undone", drive.undo(), 0);
            Check.equal("15 again", stock(drive), "8 9 10 11 12 13 14 15 16 17 18 19 20 21 22");
        });
        String noTeeth = "Throws `IllegalArgumentException` if teeth is out of range";
        Sentence.of(32, "- `teeth`: 8 to 100", noTeeth).holds(() -> {
            Refusal.range(Drives::fresh, 8, 100, Refusal.ARGUMENT, PlanetDrive::addStock);
            Refusal.range(() -> Check.driveOf("stock 50;"), 8, 100, Refusal.ARGUMENT, PlanetDrive::addStock);
            Refusal.refuses("no teeth", Drives::rich, Refusal.ARGUMENT, drive -> drive.addStock(0));
            for (int teeth : new int[] {7, 101, Integer.MIN_VALUE, Integer.MAX_VALUE}) {
                Refusal.refuses("a full stock, " + teeth, Drives::full, Refusal.ARGUMENT,
                        drive -> drive.addStock(teeth));
            }
        });
        Sentence.of(32, "Throws `IllegalStateException` if the stock has it already, or has 16 numbers").holds(() -> {
            for (int teeth : new int[] {10, 20, 30, 40}) {
                Refusal.refuses("again " + teeth, Drives::rich, Refusal.STATE, drive -> drive.addStock(teeth));
            }
            for (int teeth : new int[] {8, 15, 23, 24, 99, 100}) {
                Refusal.refuses("a full stock, " + teeth, Drives::full, Refusal.STATE,
                        drive -> drive.addStock(teeth));
            }
            Refusal.takes("the 16th", () -> Check.driveOf(FIFTEEN), drive -> drive.addStock(23));
            Refusal.refuses("15, and it has it", () -> Check.driveOf(FIFTEEN), Refusal.STATE,
                    drive -> drive.addStock(22));
            Refusal.refuses("the 17th", () -> Check.driveOf(SIXTEEN), Refusal.STATE, drive -> drive.addStock(23));
            Refusal.takes("the 16th again", () -> {
                PlanetDrive drive = Check.driveOf(SIXTEEN);
                drive.removeStock(8);
                return drive;
            }, drive -> drive.addStock(8));
        });
        Sentence.of(32, "Adds a number of teeth to the stock.", "Returns the number of numbers then.").holds(() -> {
            PlanetDrive drive = new PlanetDrive();
            for (int n = 1; n <= 16; n++) {
                Check.equal("numbers", drive.addStock(n % 2 == 0 ? 100 - n : 8 + n), n);
            }
            Check.equal("in order", stock(drive), "9 11 13 15 17 19 21 23 84 86 88 90 92 94 96 98");
        });
    }

    private static void removesStock() {
        isChange(33, Sentence.A_CHANGE, drive -> drive.removeStock(10));
        Sentence.of(33, "Returns true; false, with no change, if the stock does not have it.", "- `teeth`: a number of"
                + " teeth").holds(() -> {
            for (int teeth : new int[] {0, 7, 9, 50, 99, 101, -10, Integer.MIN_VALUE, Integer.MAX_VALUE}) {
                Check.isFalse("not in some: " + teeth, Drives.rich().removeStock(teeth));
                Twins.unchanged("not in some: " + teeth, Drives::rich, drive -> drive.removeStock(teeth));
                Check.isFalse("not in none: " + teeth, new PlanetDrive().removeStock(teeth));
                Twins.unchanged("not in none: " + teeth, Drives::fresh, drive -> drive.removeStock(teeth));
            }
            for (int teeth : new int[] {7, 24, 100}) {
                Check.isFalse("not in a full one: " + teeth, Drives.full().removeStock(teeth));
                Twins.unchanged("not in a full one: " + teeth, Drives::full, drive -> drive.removeStock(teeth));
            }
            PlanetDrive drive = Drives.full();
            for (int teeth = 8; teeth <= 23; teeth++) {
                Check.isTrue("is there: " + teeth, drive.removeStock(teeth));
                Check.isFalse("is there no more: " + teeth, drive.removeStock(teeth));
                Check.equal("numbers then", drive.count(1), 23 - teeth);
            }
        });
        Sentence.of(33, "Removes a number of teeth from the stock.").holds(() -> {
            PlanetDrive drive = Check.driveOf("stock 10 20 30 40;body a period 100;train a ring 10 40;");
            drive.removeStock(10);
            Check.equal("the first", stock(drive), "20 30 40");
            drive.removeStock(30);
            Check.equal("one between", stock(drive), "20 40");
            drive.removeStock(40);
            Check.equal("the last", stock(drive), "20");
            drive.removeStock(20);
            Check.equal("the only one", stock(drive), "");
            Check.equal("trains keep their gears", train(drive, 0), "10o40");
        });
    }

    private static void setsSlack() {
        isChange(34, Sentence.A_CHANGE, drive -> drive.setSlack(0));
        String noSlack = "Throws `IllegalArgumentException` if slack is out of range";
        Sentence.of(34, "- `slack`: 0 to 999", noSlack).holds(() -> {
            Refusal.range(Drives::fresh, 0, 999, Refusal.ARGUMENT, PlanetDrive::setSlack);
            Refusal.within(0, 999, PlanetDrive::setSlack);
        });
        Sentence.of(34, "Returns the slack before.").holds(() -> {
            PlanetDrive drive = new PlanetDrive();
            int[] slacks = {0, 999, 999, 0, 1};
            int before = 60;
            for (int slack : slacks) {
                Check.equal("before", drive.setSlack(slack), before);
                Check.equal("then", drive.count(3), slack);
                before = slack;
            }
            Check.equal("the same is a change too", drive.count(5), 5);
        });
    }

    private static void cranks() {
        isChange(35, Sentence.A_CHANGE, drive -> drive.crank(399));
        Sentence.of(35, Sentence.A_DAY, Sentence.NO_DAY).holds(() -> {
            Refusal.range(Drives::fresh, 0, 400000, Refusal.ARGUMENT, PlanetDrive::crank);
            Refusal.within(0, 400000, PlanetDrive::crank);
        });
        Sentence.of(35, "Returns the day before.").holds(() -> {
            PlanetDrive drive = Check.driveOf("body a period 100;");
            int[] days = {400000, 0, 0, 1, 399999, 399999};
            int before = 0;
            for (int day : days) {
                Check.equal("before", drive.crank(day), before);
                Check.equal("then", drive.count(4), day);
                before = day;
            }
            Check.equal("the same is a change too", drive.count(5), 6);
        });
    }

    private static void improves() {
        String nothing = "Returns the new number of teeth; -1, with no change, if nothing is replaced.";
        Sentence.of(42, Sentence.NO_BODY).holds(() -> Refusal.bodies(PlanetDrive::improve));
        Sentence.of(42, "This is a change, if it is replaced.").holds(() -> {
            PlanetDrive drive = Check.driveOf("stock 10 40;body a period 400;train a ring 10 20;");
            Check.equal("replaces", drive.improve(0), 40);
            Check.equal("a change", drive.count(5), 1);
            Check.equal("replaces nothing", drive.improve(0), -1);
            Check.equal("no change", drive.count(5), 1);
            Check.equal("undone", drive.undo(), 0);
            Check.equal("the train again", train(drive, 0), "10o20");
        });
        Sentence.of(42, nothing).holds(() -> {
            String[] texts = {"stock 10 20;body a period 200;", "stock 10 20;body a period 200;train a idler 10;",
                "stock 10 20;body a period 200;train a idler 10 idler 20 idler 10 idler 20;",
                "body a period 200;train a ring 10 90;", "stock 10 20;body a period 200;train a ring 10 20;",
                "stock 10;body a period 200;train a ring 10 10;",
                // The wrong way round, the slowest is the best.
                "stock 8 100;body a period 200 retro;train a ring 8 100;"};
            for (String text : texts) {
                Check.equal("nothing in " + text, Check.driveOf(text).improve(0), -1);
                Twins.unchanged("nothing in " + text, () -> Check.driveOf(text), drive -> drive.improve(0));
            }
        });
        Sentence.of(42, "The gear is replaced if the ratio is nearer then than before.").holds(() -> {
            // 3/4 is due, which lies between 1/2 and 1: as near is not nearer.
            String text = "body b period 400;body a period 100 on b;train b ring 8 32;train a ring 10 20;";
            Check.equal("as near", Check.driveOf("stock 20;" + text).improve(1), -1);
            Twins.unchanged("as near", () -> Check.driveOf("stock 20;" + text), drive -> drive.improve(1));
            Check.equal("just nearer", Check.driveOf("stock 19;" + text).improve(1), 19);
            Check.equal("farther", Check.driveOf("stock 21;" + text).improve(1), -1);
        });
        Sentence.of(42, "Improves a train by another gear of the stock: of all ways to replace the teeth of one driver"
                + " or driven gear of a part gear or ring by another number of the stock, the one with which the ratio"
                + " of the body differs least from what it should make a day; of several the one with the first part,"
                + " then the driver, then the smaller number.").holds(() -> {
            improved("the first part", "stock 20 40;body a period 400;train a ring 10 20 ring 10 10;", 40,
                    "10o40 10o10");
            improved("the driver", "stock 10 40;body a period 200;train a ring 20 20 ring 20 20;", 10, "10o20 20o20");
            improved("the driven gear of the first", "stock 40;body a period 200;train a ring 20 20 ring 20 20;", 40,
                    "20o40 20o20");
            improved("only the second", "stock 20;body a period 450;train a ring 10 30 ring 40 30;", 20,
                    "10o30 20o30");
            improved("its driven gear", "stock 60;body a period 600;train a idler 9 gear 20 40 idler 9 gear 20 30;", 60,
                    "9i 20/40 9i 20/60");
            // 3/4 is due: 10/20 and 20/20 are as far from it.
            improved("the smaller number", "stock 20 10;body b period 200;body a period 100 on b;train b ring 8 32;"
                    + "train a ring 100 20;", 10, "10o20");
            improved("all 16", "stock 23 22 21 20 19 18 17 16 15 14 13 12 11 10 9 8;body a period 9999999;"
                    + "train a ring 50 50;", 8, "8o50");
            improved("the wrong way round", "stock 8 100;body a period 100 retro;train a ring 50 50;", 8, "8o50");
        });
    }

    private static void improved(String what, String text, int teeth, String train) {
        PlanetDrive drive = Check.driveOf(text);
        int last = drive.count(0) - 1;
        Check.equal(what, drive.improve(last), teeth);
        Check.equal(what, train(drive, last), train);
    }

    private static void swaps() {
        isChange(43, "This is a change, of both trains.", drive -> drive.swapTrains(0, 1));
        Sentence.of(43, Sentence.NO_BODY_OR_OTHER).holds(() -> {
            Refusal.bodies((drive, body) -> drive.swapTrains(body, body == 0 ? 1 : 0));
            Refusal.bodies((drive, other) -> drive.swapTrains(other == 0 ? 1 : 0, other));
        });
        Sentence.of(43, THE_SAME, "- `other`: number of another body").holds(() -> {
            for (int body = 0; body < 8; body++) {
                int each = body;
                Refusal.refuses("both " + body, Drives::full, Refusal.ARGUMENT, drive -> drive.swapTrains(each, each));
            }
            Refusal.refuses("the only one", () -> Check.driveOf("body a period 100;"), Refusal.ARGUMENT,
                    drive -> drive.swapTrains(0, 0));
        });
        Sentence.of(43, "Returns the number of parts of the train of body then.", "Exchanges the trains of two bodies.")
                .holds(() -> {
                    PlanetDrive drive = Drives.full();
                    Check.equal("4 for 1", drive.swapTrains(7, 1), 4);
                    Check.equal("the one", train(drive, 7), "8/9 10i 11o12 13i");
                    Check.equal("the other", train(drive, 1), "10/70");
                    PlanetDrive rich = Drives.rich();
                    Check.equal("none for 2", rich.swapTrains(2, 1), 2);
                    Check.equal("2 for none", rich.swapTrains(2, 1), 0);
                    Check.equal("back again", train(rich, 1), "9i 12/10");
                    Check.equal("none", train(rich, 2), "");
                });
    }

    private static void copies() {
        isChange(44, "This is a change, of the train of the other body.", drive -> drive.copyTrain(0, 1));
        Sentence.of(44, Sentence.NO_BODY_OR_OTHER).holds(() -> {
            Refusal.bodies((drive, body) -> drive.copyTrain(body, body == 0 ? 1 : 0));
            Refusal.bodies((drive, other) -> drive.copyTrain(other == 0 ? 1 : 0, other));
        });
        Sentence.of(44, THE_SAME, "- `other`: number of another body").holds(() -> {
            for (int body = 0; body < 8; body++) {
                int each = body;
                Refusal.refuses("both " + body, Drives::full, Refusal.ARGUMENT, drive -> drive.copyTrain(each, each));
            }
            Refusal.refuses("the only one", () -> Check.driveOf("body a period 100;"), Refusal.ARGUMENT,
                    drive -> drive.copyTrain(0, 0));
        });
        Sentence.of(44, "Copies the train of a body to another one, in place of its parts.", "Returns the number of"
                + " parts.").holds(() -> {
            PlanetDrive drive = Drives.full();
            Check.equal("1 over 4", drive.copyTrain(7, 1), 1);
            Check.equal("in place of them", train(drive, 1), "10/70");
            Check.equal("4 over 1", drive.copyTrain(2, 1), 4);
            Check.equal("all of them", train(drive, 1), "8i 9i 10i 11i");
            drive.removePart(1);
            Check.equal("the one that was copied stays", train(drive, 2), "8i 9i 10i 11i");
            PlanetDrive rich = Drives.rich();
            Check.equal("none over 2", rich.copyTrain(2, 1), 0);
            Check.equal("none then", train(rich, 1), "");
            Check.equal("none over none", rich.copyTrain(2, 1), 0);
        });
    }
}
