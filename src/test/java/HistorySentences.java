/** The sentences about changes that are undone and the saved state: promises 56 to 58. */
final class HistorySentences {
    private HistorySentences() {
    }

    static void all() {
        undo();
        latestTwelve();
        save();
        restore();
    }

    private static void undo() {
        Sentence.of(56, "Returns the number of changes that can still be undone; -1 if there was none.").holds(() -> {
            Check.equal("a new object", new PlanetDrive().undo(), -1);
            Twins.unchanged("a new object", Drives::fresh, PlanetDrive::undo);
            PlanetDrive drive = new PlanetDrive();
            drive.crank(1);
            Check.equal("the only one", drive.undo(), 0);
            Check.equal("none is left", drive.undo(), -1);
            Check.equal("none is left", drive.undo(), -1);
            Check.equal("and no change is made by it", drive.count(4), 0);
            Check.load(drive, "body a period 100;");
            Check.equal("behind a load", drive.undo(), -1);
            drive.crank(1);
            Check.load(drive, "?");
            Check.equal("behind a failed load", drive.undo(), 0);
        });
        Sentence.of(56, "Undoes the latest change that was not undone.").holds(() -> {
            PlanetDrive drive = new PlanetDrive();
            for (int day = 1; day <= 3; day++) {
                drive.crank(day);
            }
            drive.undo();
            drive.undo();
            Check.equal("two of three", drive.count(4), 1);
            drive.crank(9);
            drive.undo();
            Check.equal("a new one first", drive.count(4), 1);
            drive.undo();
            Check.equal("then the old one", drive.count(4), 0);
            Check.equal("what was undone is gone", drive.undo(), -1);
        });
    }

    private static void latestTwelve() {
        Sentence.of(Sentence.DESCRIPTION, "The latest 12 changes can be undone.").holds(() -> {
            for (int changes : new int[] {0, 1, 11, 12, 13, 14, 24, 25, 100}) {
                PlanetDrive drive = new PlanetDrive();
                for (int day = 1; day <= changes; day++) {
                    drive.crank(day);
                }
                int left = Math.min(12, changes);
                Check.equal("of " + changes, drive.count(5), left);
                for (int n = 1; n <= left; n++) {
                    Check.equal("left of " + changes, drive.undo(), left - n);
                    Check.equal("day " + n + " of " + changes, drive.count(4), changes - n);
                }
                Check.equal("no more of " + changes, drive.undo(), -1);
                Check.equal("the day stays", drive.count(4), changes - left);
                drive.crank(7);
                Check.equal("one again", drive.count(5), 1);
            }
        });
        Sentence.of(Sentence.DESCRIPTION, "Changes are the methods whose description says so.").holds(() -> {
            PlanetDrive drive = Drives.rich();
            drive.appendInput(0, 0, 0, 0, 0);
            drive.truncateInput(0);
            drive.saveState();
            drive.report(2000);
            drive.printTrain(0);
            drive.printErrors(0, 2000, 2000, 1);
            drive.removeStock(99);
            drive.improve(2);
            Check.load(drive, "?");
            Check.equal("none of these", drive.count(5), 3);
            Check.equal("the stock is the latest", drive.undo(), 2);
            Check.equal("as it was", drive.count(1), 3);
        });
    }

    private static void save() {
        Sentence.of(57, "Saves the whole state (stock, slack, trains, crank, lags), except the changes that can be"
                + " undone, in place of an earlier saved state.", "Returns the day at which the crank stands.")
                .holds(() -> {
                    PlanetDrive drive = Drives.full();
                    String saved = withoutChanges(drive);
                    Check.equal("day", drive.saveState(), 399988);
                    Check.equal("saving is no change", drive.count(5), 12);
                    drive.removeStock(8);
                    drive.setSlack(1);
                    drive.removePart(1);
                    drive.swapTrains(2, 3);
                    drive.crank(0);
                    Check.equal("saved over the earlier one", drive.restoreState(), 399988);
                    Check.equal("all of it", withoutChanges(drive), saved);
                    Check.equal("no changes", drive.count(5), 0);
                    drive.crank(400000);
                    Check.equal("the last day", drive.saveState(), 400000);
                    drive.crank(0);
                    Check.equal("the later one", drive.restoreState(), 400000);
                    Check.equal("day 0", new PlanetDrive().saveState(), 0);
                });
    }

    private static String withoutChanges(PlanetDrive drive) {
        return Twins.standing(drive).replaceFirst("^(counts( \\d+){5}) \\d+", "$1");
    }

    private static void restore() {
        Sentence.of(58, "Throws `IllegalStateException` if no state is saved").holds(() -> {
            Refusal.refuses("a new object", Drives::fresh, Refusal.STATE, PlanetDrive::restoreState);
            Refusal.refuses("behind a load", () -> {
                PlanetDrive drive = new PlanetDrive();
                drive.saveState();
                Check.load(drive, "body a period 100;");
                drive.crank(4);
                return drive;
            }, Refusal.STATE, PlanetDrive::restoreState);
            Refusal.takes("behind a failed load", () -> {
                PlanetDrive drive = new PlanetDrive();
                drive.saveState();
                Check.load(drive, "?");
                return drive;
            }, PlanetDrive::restoreState);
        });
        Sentence.of(58, "Restores the saved state, which stays saved.").holds(() -> {
            PlanetDrive drive = Drives.rich();
            Check.equal("once", drive.restoreState(), 500);
            String saved = withoutChanges(drive);
            drive.addStock(50);
            drive.removePart(0);
            drive.crank(3);
            Check.equal("twice", drive.restoreState(), 500);
            Check.equal("the same", withoutChanges(drive), saved);
            drive.setSlack(7);
            drive.undo();
            Check.equal("thrice", drive.restoreState(), 500);
            Check.equal("the same", withoutChanges(drive), saved);
            Check.equal("at once again", drive.restoreState(), 500);
        });
        Sentence.of(58, "Nothing can be undone then.").holds(() -> {
            PlanetDrive drive = Drives.full();
            Check.equal("12 before", drive.count(5), 12);
            drive.restoreState();
            Check.equal("none then", drive.count(5), 0);
            Check.equal("nothing to undo", drive.undo(), -1);
            for (int day = 1; day <= 13; day++) {
                drive.crank(day);
                Check.equal("new ones", drive.count(5), Math.min(12, day));
            }
        });
    }
}
