/** Promises 56 to 58: changes undone, states saved and restored. */
public final class HistoryTest {
    private static final Class<IllegalArgumentException> ARGUMENT = IllegalArgumentException.class;
    private static final Class<IllegalStateException> STATE = IllegalStateException.class;

    private static final String TEXT = "stock 10 20 40;slack 30;body a period 300;body b period 200;"
            + "train a ring 10 20 ring 30 25;train b idler 9;";

    private HistoryTest() {
    }

    public static void main(String[] args) {
        undoesEachKindOfChange();
        undoes12Changes();
        undoesAcrossNewChanges();
        questionsAreNoChanges();
        savesAndRestores();
        restoresNothingThatCanBeUndone();
        savesInPlaceOfTheEarlier();
        Check.end("HistoryTest");
    }

    /** All that can be asked about the state, but the changes. */
    private static String stateOf(PlanetDrive drive) {
        StringBuilder text = new StringBuilder();
        for (int index = 0; index < drive.count(1); index++) {
            text.append(drive.stock(index)).append(' ');
        }
        text.append("slack ").append(drive.count(3)).append(" day ").append(drive.count(4));
        for (int body = 0; body < drive.count(0); body++) {
            text.append("; ").append(drive.lag(body)).append(" of ").append(drive.backlash(body)).append(' ');
            for (int part = 0; part < drive.body(body, 3); part++) {
                for (int what = 0; what < 3; what++) {
                    text.append(' ').append(drive.part(body, part, what));
                }
            }
        }
        return text.toString();
    }

    private static void change(PlanetDrive drive, int kind) {
        switch (kind) {
            case 0 -> drive.build(0);
            case 1 -> drive.addPart(1, 0, 8, 9);
            case 2 -> drive.removePart(0);
            case 3 -> drive.addStock(30);
            case 4 -> drive.removeStock(20);
            case 5 -> drive.setSlack(31);
            case 6 -> drive.crank(300);
            case 7 -> drive.improve(0);
            case 8 -> drive.swapTrains(0, 1);
            default -> drive.copyTrain(0, 1);
        }
    }

    private static PlanetDrive cranked() {
        PlanetDrive drive = Check.driveOf(TEXT);
        drive.crank(500);
        drive.crank(400);
        Check.isTrue("lags", drive.lag(0) + drive.lag(1) > 0);
        return drive;
    }

    private static void undoesEachKindOfChange() {
        for (int kind = 0; kind < 10; kind++) {
            PlanetDrive drive = cranked();
            String before = stateOf(drive);
            change(drive, kind);
            Check.isFalse("changed by " + kind, stateOf(drive).equals(before));
            Check.equal("changes " + kind, drive.count(5), 3);
            Check.equal("undone " + kind, drive.undo(), 2);
            Check.equal("state " + kind, stateOf(drive), before);
        }
    }

    private static void undoes12Changes() {
        PlanetDrive drive = new PlanetDrive();
        Check.equal("nothing to undo", drive.undo(), -1);
        for (int day = 1; day <= 30; day++) {
            drive.crank(day);
            Check.equal("changes", drive.count(5), Math.min(day, 12));
        }
        for (int left = 11; left >= 0; left--) {
            Check.equal("undone", drive.undo(), left);
            Check.equal("changes left", drive.count(5), left);
            Check.equal("day", drive.count(4), left + 18);
        }
        Check.equal("no more", drive.undo(), -1);
        Check.equal("day stays", drive.count(4), 18);
    }

    private static void undoesAcrossNewChanges() {
        PlanetDrive drive = new PlanetDrive();
        for (int day = 1; day <= 14; day++) {
            drive.crank(day);
        }
        for (int n = 0; n < 5; n++) {
            drive.undo();
        }
        Check.equal("day", drive.count(4), 9);
        drive.crank(100);
        Check.equal("what was undone is gone", drive.count(5), 8);
        Check.equal("undone", drive.undo(), 7);
        Check.equal("day", drive.count(4), 9);
        Check.equal("undone", drive.undo(), 6);
        Check.equal("day", drive.count(4), 8);
    }

    private static void questionsAreNoChanges() {
        PlanetDrive drive = cranked();
        String before = stateOf(drive);
        drive.bestTrain(0, 0);
        drive.bestPair(1, 1);
        drive.bestFraction(0, 100, 0);
        drive.convergent(0, 1, 1);
        drive.ranked(2000, 0);
        drive.nextMeeting(0, 1, 5, 100);
        drive.meetingTime(0, 1, 0);
        drive.aligned(0, 7, 9);
        drive.accuracy(0);
        drive.printErrors(0, 2000, 2100, 1);
        drive.report(2000);
        drive.printTrain(1);
        drive.saveState();
        drive.appendInput(0, 0, 0, 0, 0);
        drive.truncateInput(0);
        Check.refuses("what is refused", ARGUMENT, () -> drive.crank(-1));
        Check.equal("changes", drive.count(5), 2);
        Check.equal("state", stateOf(drive), before);
    }

    private static void savesAndRestores() {
        PlanetDrive drive = cranked();
        Check.refuses("nothing is saved", STATE, drive::restoreState);
        Check.equal("changes stay", drive.count(5), 2);
        String saved = stateOf(drive);
        Check.equal("saves", drive.saveState(), 400);
        Check.equal("saving is no change", drive.count(5), 2);
        for (int kind = 0; kind < 10; kind++) {
            change(drive, kind);
            Check.isFalse("changed by " + kind, stateOf(drive).equals(saved));
            // It stays saved, whatever is changed behind it.
            Check.equal("restores " + kind, drive.restoreState(), 400);
            Check.equal("state " + kind, stateOf(drive), saved);
        }
        drive.crank(3);
        Check.equal("saves again", drive.saveState(), 3);
        drive.crank(4);
        Check.equal("restores that", drive.restoreState(), 3);
    }

    private static void restoresNothingThatCanBeUndone() {
        PlanetDrive drive = cranked();
        drive.saveState();
        drive.crank(1);
        drive.restoreState();
        Check.equal("changes", drive.count(5), 0);
        Check.equal("undo", drive.undo(), -1);
        drive.crank(2);
        Check.equal("undoes what comes behind", drive.undo(), 0);
        Check.equal("day", drive.count(4), 400);
    }

    private static void savesInPlaceOfTheEarlier() {
        PlanetDrive drive = cranked();
        drive.crank(10);
        drive.saveState();
        Check.equal("undone", drive.undo(), 2);
        Check.equal("day", drive.count(4), 400);
        Check.equal("an undone change stays saved", drive.restoreState(), 10);
        drive.crank(20);
        drive.saveState();
        drive.crank(30);
        Check.equal("the later one", drive.restoreState(), 20);
        Check.equal("an error keeps it", Check.load(drive, "x"), -1);
        Check.equal("once more", drive.restoreState(), 20);
        Check.load(drive, TEXT);
        Check.refuses("a load forgets it", STATE, drive::restoreState);
    }
}
