/** Promises 29 to 35 and 42 to 44: the changes of trains, stock, slack and crank. */
public final class ChangesTest {
    private static final Class<IndexOutOfBoundsException> INDEX = IndexOutOfBoundsException.class;
    private static final Class<IllegalArgumentException> ARGUMENT = IllegalArgumentException.class;
    private static final Class<IllegalStateException> STATE = IllegalStateException.class;

    private static final int[] WRONG_BODIES = {-1, 4, 8, Integer.MIN_VALUE, Integer.MAX_VALUE};
    private static final String BODIES = "body mercury period 8797;body moon period 2732 retro on mercury;"
            + "body three period 300;body star period 100;";
    private static final String NO_PARTS = "=0:1";

    private ChangesTest() {
    }

    public static void main(String[] args) {
        builds();
        buildsOnACarrier();
        addsParts();
        refusesParts();
        removesParts();
        addsStock();
        removesStock();
        setsTheSlack();
        cranks();
        improves();
        improvesByTheFirstOfTheBest();
        improvesNothing();
        usesAFullStock();
        swapsTrains();
        copiesTrains();
        Check.end("ChangesTest");
    }

    /** Each train, in the form of printTrain but without the ratio. */
    private static String trains(PlanetDrive drive) {
        StringBuilder text = new StringBuilder();
        for (int body = 0; body < drive.count(0); body++) {
            for (int part = 0; part < drive.body(body, 3); part++) {
                text.append(drive.part(body, part, 1)).append("/oi".charAt(drive.part(body, part, 0)));
                text.append(drive.part(body, part, 2)).append(' ');
            }
            text.append(';');
        }
        return text.toString();
    }

    /** A call that was refused, or that found nothing to do, is no change. */
    private static void unchanged(PlanetDrive drive, String trains, int changes) {
        Check.equal("trains", trains(drive), trains);
        Check.equal("changes", drive.count(5), changes);
    }

    private static void builds() {
        PlanetDrive drive = Check.driveOf("stock 30 8 97 12 25 20;" + BODIES + "train three ring 9 10 idler 8 idler 8;");
        Check.equal("for mercury", drive.build(0), 2);
        unchanged(drive, "8/97 12/97 ;;9o10 8i0 8i0 ;;", 1);
        Check.equal("in place of the parts", drive.build(2), 2);
        unchanged(drive, "8/97 12/97 ;;8/20 25/30 ;;", 2);
        Check.equal("the other way round", drive.build(1), 3);
        unchanged(drive, "8/97 12/97 ;8/20 12/97 8i0 ;8/20 25/30 ;;", 3);
        drive.undo();
        unchanged(drive, "8/97 12/97 ;;8/20 25/30 ;;", 2);
        for (int wrong : WRONG_BODIES) {
            Check.refuses("body " + wrong, INDEX, () -> drive.build(wrong));
        }
        PlanetDrive poor = Check.driveOf("stock 8;body a period 100;train a ring 8 9;");
        Check.refuses("one number", STATE, () -> poor.build(0));
        Check.refuses("body first", INDEX, () -> poor.build(1));
        unchanged(poor, "8o9 ;", 0);
        poor.removeStock(8);
        Check.refuses("no number", STATE, () -> poor.build(0));
        poor.addStock(9);
        poor.addStock(8);
        Check.equal("two numbers", poor.build(0), 2);
        unchanged(poor, "8/9 9/8 ;", 4);
    }

    private static void buildsOnACarrier() {
        // On a slower carrier the own ratio stays positive, on a faster one it is negative.
        PlanetDrive drive = Check.driveOf("stock 10 20;body slow period 1000 retro;body fast period 100;"
                + "body a period 2000 retro on slow;body b period 200 on fast;");
        Check.equal("against the slow one", drive.build(2), 2);
        Check.equal("against the fast one", drive.build(3), 3);
        Check.equal("the idler", drive.part(3, 2, 1), 10);
        Check.equal("backward by itself", drive.build(0), 3);
        Check.equal("forward by itself", drive.build(1), 2);
        PlanetDrive still = Check.driveOf("stock 10 20;body a period 100;body b period 100 on a;");
        Check.equal("0 is not negative", still.build(1), 2);
        unchanged(still, ";10/20 10/20 ;", 1);
    }

    private static void addsParts() {
        PlanetDrive drive = Check.driveOf(BODIES);
        Check.equal("gear", drive.addPart(0, 0, 8, 100), 1);
        Check.equal("idler", drive.addPart(0, 2, 100, 0), 2);
        Check.equal("ring", drive.addPart(0, 1, 100, 8), 3);
        Check.equal("idler again", drive.addPart(0, 2, 8, 0), 4);
        unchanged(drive, "8/100 100i0 100o8 8i0 ;;;;", 4);
        for (int n = 1; n <= 4; n++) {
            Check.equal("idlers", drive.addPart(1, 2, 8 + n, 0), n);
        }
        unchanged(drive, "8/100 100i0 100o8 8i0 ;9i0 10i0 11i0 12i0 ;;;", 8);
        drive.undo();
        unchanged(drive, "8/100 100i0 100o8 8i0 ;9i0 10i0 11i0 ;;;", 7);
    }

    private static void refusesParts() {
        PlanetDrive drive = Check.driveOf(BODIES + "train mercury gear 8 9 ring 8 9;train moon idler 8 idler 8 idler 8"
                + " idler 8;");
        String trains = trains(drive);
        for (int wrong : WRONG_BODIES) {
            Check.refuses("body " + wrong, INDEX, () -> drive.addPart(wrong, 0, 8, 8));
            Check.refuses("body first", INDEX, () -> drive.addPart(wrong, -1, 0, 0));
        }
        for (int wrong : new int[] {-1, 3, Integer.MIN_VALUE, Integer.MAX_VALUE}) {
            Check.refuses("kind " + wrong, ARGUMENT, () -> drive.addPart(2, wrong, 8, 8));
        }
        for (int wrong : new int[] {7, 101, 0, -8, Integer.MIN_VALUE, Integer.MAX_VALUE}) {
            for (int kind = 0; kind < 2; kind++) {
                int each = kind;
                Check.refuses("driver " + wrong, ARGUMENT, () -> drive.addPart(2, each, wrong, 8));
                Check.refuses("driven " + wrong, ARGUMENT, () -> drive.addPart(2, each, 8, wrong));
            }
            Check.refuses("idler " + wrong, ARGUMENT, () -> drive.addPart(2, 2, wrong, 0));
            Check.refuses("argument before state", ARGUMENT, () -> drive.addPart(1, 2, wrong, 0));
        }
        for (int wrong : new int[] {-1, 1, 8, Integer.MIN_VALUE, Integer.MAX_VALUE}) {
            Check.refuses("driven of an idler " + wrong, ARGUMENT, () -> drive.addPart(2, 2, 8, wrong));
        }
        Check.refuses("a third gear", STATE, () -> drive.addPart(0, 0, 8, 8));
        Check.refuses("a third ring", STATE, () -> drive.addPart(0, 1, 8, 8));
        Check.refuses("a fifth idler", STATE, () -> drive.addPart(1, 2, 8, 0));
        Check.refuses("a fifth part", STATE, () -> drive.addPart(1, 0, 8, 8));
        unchanged(drive, trains, 0);
        Check.equal("an idler behind two gears", drive.addPart(0, 2, 8, 0), 3);
    }

    private static void removesParts() {
        PlanetDrive drive = Check.driveOf(BODIES + "train mercury gear 8 9 idler 10 ring 11 12;");
        Check.equal("the ring", drive.removePart(0), 2);
        unchanged(drive, "8/9 10i0 ;;;;", 1);
        Check.equal("the idler", drive.removePart(0), 1);
        Check.equal("the gear", drive.removePart(0), 0);
        unchanged(drive, ";;;;", 3);
        drive.printTrain(0);
        Check.equal("no parts", Check.outputOf(drive), NO_PARTS);
        Check.refuses("nothing", STATE, () -> drive.removePart(0));
        Check.refuses("nothing of another one", STATE, () -> drive.removePart(3));
        for (int wrong : WRONG_BODIES) {
            Check.refuses("body " + wrong, INDEX, () -> drive.removePart(wrong));
        }
        unchanged(drive, ";;;;", 3);
        drive.undo();
        unchanged(drive, "8/9 ;;;;", 2);
    }

    private static String stock(PlanetDrive drive) {
        StringBuilder text = new StringBuilder();
        for (int index = 0; index < drive.count(1); index++) {
            text.append(drive.stock(index)).append(' ');
        }
        return text.toString();
    }

    private static void addsStock() {
        PlanetDrive drive = new PlanetDrive();
        int[] order = {50, 8, 100, 49, 51, 9, 99};
        for (int n = 0; n < order.length; n++) {
            Check.equal("stock then", drive.addStock(order[n]), n + 1);
        }
        Check.equal("in order", stock(drive), "8 9 49 50 51 99 100 ");
        Check.equal("changes", drive.count(5), 7);
        for (int wrong : new int[] {7, 101, 0, -1, Integer.MIN_VALUE, Integer.MAX_VALUE}) {
            Check.refuses("teeth " + wrong, ARGUMENT, () -> drive.addStock(wrong));
        }
        Check.refuses("once more", STATE, () -> drive.addStock(49));
        for (int teeth = 20; teeth < 29; teeth++) {
            drive.addStock(teeth);
        }
        Check.refuses("a 17th", STATE, () -> drive.addStock(30));
        Check.refuses("argument before state", ARGUMENT, () -> drive.addStock(7));
        Check.equal("16", drive.count(1), 16);
        drive.undo();
        Check.equal("undone", stock(drive), "8 9 20 21 22 23 24 25 26 27 49 50 51 99 100 ");
        Check.equal("16 again", drive.addStock(30), 16);
    }

    private static void removesStock() {
        PlanetDrive drive = Check.driveOf("stock 30 8 100 50;body a period 100;train a gear 30 8;");
        Check.isTrue("one in the middle", drive.removeStock(30));
        Check.equal("the others", stock(drive), "8 50 100 ");
        unchanged(drive, "30/8 ;", 1);
        for (int other : new int[] {30, 9, 0, -1, Integer.MIN_VALUE, Integer.MAX_VALUE}) {
            Check.isFalse("not there: " + other, drive.removeStock(other));
        }
        unchanged(drive, "30/8 ;", 1);
        Check.isTrue("the last", drive.removeStock(100));
        Check.isTrue("the first", drive.removeStock(8));
        Check.isTrue("the only one", drive.removeStock(50));
        Check.equal("none", stock(drive), "");
        drive.undo();
        drive.undo();
        drive.undo();
        drive.undo();
        Check.equal("undone", stock(drive), "8 30 50 100 ");
    }

    private static void setsTheSlack() {
        PlanetDrive drive = Check.driveOf("body a period 100;body b period 100;train a ring 8 9;train b ring 8 9;");
        drive.crank(10);
        drive.crank(0);
        Check.equal("lag", drive.lag(0), 60);
        Check.equal("slack before", drive.setSlack(0), 60);
        Check.equal("lag then", drive.lag(0), 0);
        Check.equal("the other lag then", drive.lag(1), 0);
        Check.equal("slack before", drive.setSlack(999), 0);
        Check.equal("slack", drive.count(3), 999);
        Check.equal("the same is a change too", drive.setSlack(999), 999);
        Check.equal("changes", drive.count(5), 5);
        for (int wrong : new int[] {-1, 1000, Integer.MIN_VALUE, Integer.MAX_VALUE}) {
            Check.refuses("slack " + wrong, ARGUMENT, () -> drive.setSlack(wrong));
        }
        Check.equal("not changed", drive.count(3), 999);
        Check.equal("no change", drive.count(5), 5);
        drive.undo();
        drive.undo();
        drive.undo();
        Check.equal("the lag is back", drive.lag(1), 60);
        Check.equal("the slack is back", drive.count(3), 60);
    }

    private static void cranks() {
        PlanetDrive drive = Check.driveOf("body a period 100;");
        Check.equal("from 0", drive.crank(400000), 0);
        Check.equal("from the last day", drive.crank(0), 400000);
        Check.equal("to where it stands", drive.crank(0), 0);
        Check.equal("changes", drive.count(5), 3);
        for (int wrong : new int[] {-1, 400001, Integer.MIN_VALUE, Integer.MAX_VALUE}) {
            Check.refuses("day " + wrong, ARGUMENT, () -> drive.crank(wrong));
        }
        Check.equal("no change", drive.count(5), 3);
        drive.undo();
        drive.undo();
        Check.equal("the day is back", drive.count(4), 400000);
        Check.equal("without bodies", new PlanetDrive().crank(7), 0);
    }

    private static void improves() {
        // 10/20 * 30/25 is 3/5; 10/40 * 30/25 is 3/10, the nearest one to 1/3.
        PlanetDrive drive = Check.driveOf("stock 8 12 20 25 40;body a period 300;train a ring 10 20 gear 30 25 idler 9;");
        Check.equal("teeth", drive.improve(0), 40);
        unchanged(drive, "10o40 30/25 9i0 ;", 1);
        drive.undo();
        unchanged(drive, "10o20 30/25 9i0 ;", 0);
        // The carrier does its part: 1/4 is due, it gives 1/2, and an own -1/4 is the best.
        PlanetDrive carried = Check.driveOf("stock 10 40;body c period 200;body a period 400 on c;"
                + "train c ring 10 20;train a gear 10 10;");
        Check.equal("on a carrier", carried.improve(1), 40);
        unchanged(carried, "10o20 ;10/40 ;", 1);
        for (int wrong : new int[] {-1, 2, 8, Integer.MIN_VALUE, Integer.MAX_VALUE}) {
            Check.refuses("body " + wrong, INDEX, () -> carried.improve(wrong));
        }
    }

    private static void improvesByTheFirstOfTheBest() {
        PlanetDrive drive = Check.driveOf("stock 20 40;body a period 400;train a ring 10 20 ring 10 10;");
        Check.equal("teeth", drive.improve(0), 40);
        unchanged(drive, "10o40 10o10 ;", 1);
        // 1/2 is due; 10 for the driver of a part does it, and so does 40 for its driven gear.
        PlanetDrive sides = Check.driveOf("stock 10 40;body a period 200;train a ring 20 20 ring 20 20;");
        Check.equal("the driver of the first", sides.improve(0), 10);
        unchanged(sides, "10o20 20o20 ;", 1);
        // 2/9 is due, which 10/30 * 20/30 makes and nothing else.
        PlanetDrive second = Check.driveOf("stock 20;body a period 450;train a ring 10 30 ring 40 30;");
        Check.equal("the second part", second.improve(0), 20);
        unchanged(second, "10o30 20o30 ;", 1);
        // 3/4 is due, just between 10/20 and 20/20.
        PlanetDrive tied = Check.driveOf("stock 20 10;body b period 200;body c period 100 on b;"
                + "train b ring 8 32;train c ring 100 20;");
        Check.equal("the smaller number on a tie", tied.improve(1), 10);
    }

    private static void improvesNothing() {
        PlanetDrive drive = Check.driveOf("stock 10 20;body a period 200;body b period 100 retro;body c period 100;"
                + "train a ring 10 20;train b idler 10 idler 20;");
        Check.equal("the best already", drive.improve(0), -1);
        Check.equal("idlers", drive.improve(1), -1);
        Check.equal("no train", drive.improve(2), -1);
        unchanged(drive, "10o20 ;10i0 20i0 ;;", 0);
        // 3/4 is due, and 20/20 is as near to it as 10/20: not nearer.
        PlanetDrive equal = Check.driveOf("stock 20;body b period 400;body a period 100 on b;"
                + "train b ring 8 32;train a ring 10 20;");
        Check.equal("only as near", equal.improve(1), -1);
        equal.removeStock(20);
        Check.equal("an empty stock", equal.improve(1), -1);
        Check.equal("changes", equal.count(5), 1);
    }

    private static void usesAFullStock() {
        PlanetDrive drive = Check.driveOf("stock 23 22 21 20 19 18 17 16 15 14 13 12 11 10 9 8;"
                + "body a period 200;body b period 100 retro;train a ring 30 30;");
        Check.equal("improves", drive.improve(0), 15);
        Check.equal("builds", drive.build(1), 3);
        unchanged(drive, "15o30 ;8/9 9/8 8i0 ;", 2);
        Check.equal("builds again", drive.build(0), 2);
        unchanged(drive, "8/12 9/12 ;8/9 9/8 8i0 ;", 3);
    }

    private static void swapsTrains() {
        PlanetDrive drive = Check.driveOf(BODIES + "train mercury gear 8 9 idler 10;train three ring 11 12;");
        drive.crank(9);
        drive.crank(0);
        Check.isTrue("lags", drive.lag(0) > 0 && drive.lag(2) > 0);
        Check.equal("parts then", drive.swapTrains(0, 2), 1);
        unchanged(drive, "11o12 ;;8/9 10i0 ;;", 3);
        Check.equal("lag", drive.lag(0), 0);
        Check.equal("other lag", drive.lag(2), 0);
        Check.equal("with none", drive.swapTrains(2, 3), 0);
        unchanged(drive, "11o12 ;;;8/9 10i0 ;", 4);
        refusesPairs(drive, true);
        unchanged(drive, "11o12 ;;;8/9 10i0 ;", 4);
        drive.undo();
        drive.undo();
        unchanged(drive, "8/9 10i0 ;;11o12 ;;", 2);
    }

    private static void copiesTrains() {
        PlanetDrive drive = Check.driveOf(BODIES + "train mercury gear 8 9 idler 10;train three ring 11 12;");
        drive.crank(9);
        drive.crank(0);
        int lag = drive.lag(0);
        Check.isTrue("lags", lag > 0 && drive.lag(2) > 0);
        Check.equal("parts", drive.copyTrain(0, 2), 2);
        unchanged(drive, "8/9 10i0 ;;8/9 10i0 ;;", 3);
        Check.equal("lag", drive.lag(0), lag);
        Check.equal("other lag", drive.lag(2), 0);
        drive.removePart(0);
        unchanged(drive, "8/9 ;;8/9 10i0 ;;", 4);
        Check.equal("none", drive.copyTrain(3, 0), 0);
        unchanged(drive, ";;8/9 10i0 ;;", 5);
        refusesPairs(drive, false);
        unchanged(drive, ";;8/9 10i0 ;;", 5);
        drive.undo();
        unchanged(drive, "8/9 ;;8/9 10i0 ;;", 4);
    }

    private static int two(PlanetDrive drive, boolean swap, int body, int other) {
        return swap ? drive.swapTrains(body, other) : drive.copyTrain(body, other);
    }

    private static void refusesPairs(PlanetDrive drive, boolean swap) {
        for (int wrong : WRONG_BODIES) {
            Check.refuses("body " + wrong, INDEX, () -> two(drive, swap, wrong, 0));
            Check.refuses("other " + wrong, INDEX, () -> two(drive, swap, 0, wrong));
            Check.refuses("the same wrong ones", INDEX, () -> two(drive, swap, wrong, wrong));
        }
        for (int body = 0; body < 4; body++) {
            int each = body;
            Check.refuses("both the same", ARGUMENT, () -> two(drive, swap, each, each));
        }
    }
}
