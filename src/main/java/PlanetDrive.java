import java.util.NoSuchElementException;

/**
 * The drive of a planetarium: a main shaft that turns once a day drives the pointer of each body by
 * a train of gears; trains are searched in a stock of gears; the error of each pointer is reported
 * exactly for every day and year; backlash of the meshes is taken up when the crank is turned back.
 *
 * <p>All rows are made with the object and used again; no call makes an object but the exception
 * that it throws.
 */
public final class PlanetDrive {
    /** No error. */
    public static final int NO_ERROR = 0;
    /** Error code: the text does not follow the form. */
    public static final int SYNTAX = 1;
    /** Error code: a number is out of range. */
    public static final int OUT_OF_RANGE = 2;
    /** Error code: a name that is taken or unknown. */
    public static final int BAD_NAME = 3;
    /** Error code: something that cannot stand there. */
    public static final int MISPLACED = 4;

    private static final int INPUT_LIMIT = 900;
    private static final int OUTPUT_LIMIT = 1024;
    private static final int BODY_LIMIT = 8;
    private static final int STOCK_LIMIT = 16;
    private static final int PART_LIMIT = 4;
    private static final int GEARED_LIMIT = 2;
    private static final int UNDO_LIMIT = 12;
    private static final int PRINT_LIMIT = 40;

    private static final int TEETH_MIN = 8;
    private static final int TEETH_MAX = 100;
    private static final int START_MIN = 1600;
    private static final int START_MAX = 2400;
    private static final int START_USUAL = 2000;
    private static final int SLACK_MAX = 999;
    private static final int SLACK_USUAL = 60;
    private static final int PERIOD_MIN = 100;
    private static final int PERIOD_MAX = 9999999;
    private static final int NUMBER_DIGITS = 7;
    private static final int NAME_LETTERS = 8;

    private static final int YEARS = 1000;
    private static final int DAY_MAX = 400000;
    private static final int MEETING_DAYS = 10000;
    private static final int ERROR_MAX = 1000000000;
    private static final int FRACTION_MAX = 10000;
    private static final int CIRCLE = 1296000;
    private static final int HALF_CIRCLE = 648000;

    private static final int GEAR = 0;
    private static final int RING = 1;
    private static final int IDLER = 2;
    private static final int KIND = 0;
    private static final int DRIVER = 1;
    private static final int DRIVEN = 2;

    // More steps than Euclid's algorithm takes on any two longs.
    private static final int EUCLID_STEPS = 200;

    private final SetupReader reader = new SetupReader();
    private final Setup setup = new Setup();
    private final State state = new State();
    private final History history = new History();
    private final Output output = new Output();

    // Scratch rows of the questions; no answer depends on what an earlier call left in them.
    private final GearSearch search = new GearSearch();
    private final Ratio pointer = new Ratio();
    private final Ratio otherPointer = new Ratio();
    private final Ratio drift = new Ratio();
    private final Ratio nearest = new Ratio();
    private final Train trial = new Train();
    private final long[] misses = new long[BODY_LIMIT];

    public PlanetDrive() {
    }

    // ---- the setup text ----

    public int appendInput(int a, int b, int c, int d, int e) {
        Tokens tokens = reader.tokens;
        if (tokens.length + 20 > INPUT_LIMIT) {
            return -1;
        }
        tokens.appendBytes(a);
        tokens.appendBytes(b);
        tokens.appendBytes(c);
        tokens.appendBytes(d);
        tokens.appendBytes(e);
        return tokens.length;
    }

    public boolean truncateInput(int length) {
        if (length < 0 || length > reader.tokens.length) {
            return false;
        }
        reader.tokens.length = length;
        return true;
    }

    public int loadDrive() {
        boolean good = reader.readText();
        reader.tokens.length = 0;
        if (!good) {
            return -1;
        }
        setup.copyFrom(reader.setup);
        state.copyFrom(reader.state);
        history.forgetAll();
        return setup.bodies;
    }

    public int errorCode() {
        return reader.code;
    }

    public int errorOffset() {
        return reader.offset;
    }

    // ---- the parts of the drive ----

    public int count(int what) throws IllegalArgumentException {
        needWithin(what, 0, 6);
        switch (what) {
            case 0:
                return setup.bodies;
            case 1:
                return state.stockSize;
            case 2:
                return setup.start;
            case 3:
                return state.slack;
            case 4:
                return state.day;
            case 5:
                return history.size;
            default:
                return teethOfAll();
        }
    }

    public int body(int body, int what) throws IndexOutOfBoundsException, IllegalArgumentException {
        needBody(body);
        needWithin(what, 0, 5);
        switch (what) {
            case 0:
                return setup.periods[body];
            case 1:
                return setup.retro[body] ? 1 : 0;
            case 2:
                return setup.carriers[body];
            case 3:
                return state.trains[body].size;
            case 4:
                return state.trains[body].teethTogether();
            default:
                return state.trains[body].meshes();
        }
    }

    public int part(int body, int part, int what)
            throws IndexOutOfBoundsException, NoSuchElementException, IllegalArgumentException {
        needBody(body);
        Train train = state.trains[body];
        if (part < 0 || part >= train.size) {
            throw new NoSuchElementException("no such part");
        }
        needWithin(what, 0, 2);
        return train.cell(part, what);
    }

    public int stock(int index) throws NoSuchElementException {
        if (index < 0 || index >= state.stockSize) {
            throw new NoSuchElementException("no such place in the stock");
        }
        return state.stockTeeth[index];
    }

    public long numerator(int body) throws IndexOutOfBoundsException {
        needBody(body);
        return pointerOf(body, pointer).top;
    }

    public long denominator(int body) throws IndexOutOfBoundsException {
        needBody(body);
        return pointerOf(body, pointer).bottom;
    }

    // ---- days and years ----

    public int daysOf(int year) throws IllegalArgumentException {
        needYear(year);
        return setup.endDay(year) - setup.endDay(year - 1);
    }

    public int endOf(int year) throws IllegalArgumentException {
        needYear(year);
        return setup.endDay(year);
    }

    public int yearOf(int day) throws IllegalArgumentException {
        needWithin(day, 0, DAY_MAX);
        return setup.yearWith(day);
    }

    public int leapYears(int from, int to) throws IllegalArgumentException {
        needYears(from, to);
        return Setup.leapYearsTo(to) - Setup.leapYearsTo(from - 1);
    }

    // ---- errors and angles ----

    public long errorBy(int body, int day) throws IndexOutOfBoundsException, IllegalArgumentException {
        needBody(body);
        needWithin(day, 0, DAY_MAX);
        return driftOf(body).arcBy(day);
    }

    public long error(int body, int year) throws IndexOutOfBoundsException, IllegalArgumentException {
        needBody(body);
        needYear(year);
        return yearEndError(body, year);
    }

    public int angle(int body, int day) throws IndexOutOfBoundsException, IllegalArgumentException {
        needBody(body);
        needWithin(day, 0, DAY_MAX);
        return pointerOf(body, pointer).angleBy(day);
    }

    public int trueAngle(int body, int day) throws IndexOutOfBoundsException, IllegalArgumentException {
        needBody(body);
        needWithin(day, 0, DAY_MAX);
        return trueRateOf(body, pointer).angleBy(day);
    }

    public int worst(int year) throws IllegalArgumentException {
        needYear(year);
        int worst = -1;
        long greatest = -1;
        for (int body = 0; body < setup.bodies; body++) {
            long miss = yearEndMiss(body, year);
            if (miss > greatest) {
                greatest = miss;
                worst = body;
            }
        }
        return worst;
    }

    public int ranked(int year, int rank) throws IllegalArgumentException, NoSuchElementException {
        needYear(year);
        for (int body = 0; body < setup.bodies; body++) {
            misses[body] = yearEndMiss(body, year);
        }
        for (int body = 0; body < setup.bodies; body++) {
            if (placeAmongMisses(body) == rank) {
                return body;
            }
        }
        throw new NoSuchElementException("no such place in the order");
    }

    public int firstBeyond(int body, int limit) throws IndexOutOfBoundsException, IllegalArgumentException {
        needBody(body);
        needWithin(limit, 0, ERROR_MAX);
        Ratio rate = driftOf(body);
        for (int year = setup.start; year < setup.start + YEARS; year++) {
            if (Math.abs(rate.arcBy(setup.endDay(year))) > limit) {
                return year;
            }
        }
        return -1;
    }

    public long totalError(int year) throws IllegalArgumentException {
        needYear(year);
        long total = 0;
        for (int body = 0; body < setup.bodies; body++) {
            total += yearEndMiss(body, year);
        }
        return total;
    }

    public long growth(int body, int from, int to) throws IndexOutOfBoundsException, IllegalArgumentException {
        needBody(body);
        needYears(from, to);
        if (from == to) {
            throw new IllegalArgumentException("a later year is needed");
        }
        Ratio rate = driftOf(body);
        long greatest = 0;
        long before = rate.arcBy(setup.endDay(from));
        for (int year = from + 1; year <= to; year++) {
            long after = rate.arcBy(setup.endDay(year));
            greatest = Math.max(greatest, Math.abs(after - before));
            before = after;
        }
        return greatest;
    }

    public int worstYear(int body, int from, int to) throws IndexOutOfBoundsException, IllegalArgumentException {
        needBody(body);
        needYears(from, to);
        Ratio rate = driftOf(body);
        int worst = from;
        long greatest = -1;
        for (int year = from; year <= to; year++) {
            long miss = Math.abs(rate.arcBy(setup.endDay(year)));
            if (miss > greatest) {
                greatest = miss;
                worst = year;
            }
        }
        return worst;
    }

    public float goodShare(int year, int limit) throws IllegalArgumentException {
        needYear(year);
        needWithin(limit, 0, ERROR_MAX);
        if (setup.bodies == 0) {
            return 1;
        }
        int good = 0;
        for (int body = 0; body < setup.bodies; body++) {
            if (yearEndMiss(body, year) <= limit) {
                good++;
            }
        }
        return (float) good / (float) setup.bodies;
    }

    public double accuracy(int body) throws IndexOutOfBoundsException {
        needBody(body);
        Ratio made = pointerOf(body, pointer);
        Ratio due = trueRateOf(body, otherPointer);
        return ((double) made.top / (double) made.bottom) / ((double) due.top / (double) due.bottom);
    }

    public long revolutions(int body, int year) throws IndexOutOfBoundsException, IllegalArgumentException {
        needBody(body);
        needYear(year);
        return pointerOf(body, pointer).wholeTurnsBy(setup.endDay(year));
    }

    // ---- searches ----

    public int bestPair(int body, int what) throws IndexOutOfBoundsException, IllegalArgumentException {
        needBody(body);
        needWithin(what, 0, 1);
        if (state.stockSize < 2) {
            return -1;
        }
        search.findPair(state, trueOwnOf(body, pointer));
        return search.wheels[what];
    }

    public int bestTrain(int body, int what) throws IndexOutOfBoundsException, IllegalArgumentException {
        needBody(body);
        needWithin(what, 0, 3);
        if (state.stockSize < 2) {
            return -1;
        }
        search.findTrain(state, trueOwnOf(body, pointer));
        return search.wheels[what];
    }

    public long convergent(int body, int index, int what)
            throws IndexOutOfBoundsException, IllegalArgumentException {
        needBody(body);
        if (index < 0) {
            throw new IllegalArgumentException("negative index");
        }
        needWithin(what, 0, 1);
        long top = 100;
        long bottom = setup.periods[body];
        long over = 0;
        long under = 1;
        long lastOver = 1;
        long lastUnder = 0;
        for (int at = 0; at < EUCLID_STEPS && bottom > 0; at++) {
            long whole = top / bottom;
            long rest = top % bottom;
            long nextOver = whole * lastOver + over;
            long nextUnder = whole * lastUnder + under;
            if (at == index) {
                return what == 0 ? nextOver : nextUnder;
            }
            over = lastOver;
            under = lastUnder;
            lastOver = nextOver;
            lastUnder = nextUnder;
            top = bottom;
            bottom = rest;
        }
        return -1;
    }

    public int bestFraction(int body, int limit, int what)
            throws IndexOutOfBoundsException, IllegalArgumentException {
        needBody(body);
        needWithin(limit, 1, FRACTION_MAX);
        needWithin(what, 0, 1);
        int bottom = search.nearestDenominator(setup.periods[body], limit);
        return what == 0 ? GearSearch.nearestNumerator(setup.periods[body], bottom) : bottom;
    }

    public int nextMeeting(int body, int other, int day, int orb)
            throws IndexOutOfBoundsException, IllegalArgumentException {
        needBody(body);
        needBody(other);
        needWithin(day, 0, DAY_MAX - MEETING_DAYS);
        needWithin(orb, 0, HALF_CIRCLE);
        Ratio one = pointerOf(body, pointer);
        Ratio two = pointerOf(other, otherPointer);
        for (int next = day + 1; next <= day + MEETING_DAYS; next++) {
            if (wayRound(one.angleBy(next), two.angleBy(next)) <= orb) {
                return next;
            }
        }
        return -1;
    }

    public long meetingTime(int body, int other, int what)
            throws IndexOutOfBoundsException, IllegalArgumentException {
        needBody(body);
        needBody(other);
        needWithin(what, 0, 1);
        Ratio difference = pointerOf(body, pointer);
        Ratio two = pointerOf(other, otherPointer);
        difference.addFraction(-two.top, two.bottom);
        if (difference.top == 0) {
            return -1;
        }
        return what == 0 ? difference.bottom : Math.abs(difference.top);
    }

    public int aligned(int body, int day, int orb) throws IndexOutOfBoundsException, IllegalArgumentException {
        needBody(body);
        needWithin(day, 0, DAY_MAX);
        needWithin(orb, 0, HALF_CIRCLE);
        int angle = pointerOf(body, pointer).angleBy(day);
        int set = 0;
        for (int other = 0; other < setup.bodies; other++) {
            if (wayRound(angle, pointerOf(other, otherPointer).angleBy(day)) <= orb) {
                set |= 1 << other;
            }
        }
        return set;
    }

    public int missing(int body) throws IndexOutOfBoundsException {
        needBody(body);
        Train train = state.trains[body];
        int missing = 0;
        for (int part = 0; part < train.size; part++) {
            if (!state.hasStock(train.cell(part, DRIVER))) {
                missing++;
            }
            if (train.isGeared(part) && !state.hasStock(train.cell(part, DRIVEN))) {
                missing++;
            }
        }
        return missing;
    }

    public int uses(int teeth) {
        int uses = 0;
        for (int body = 0; body < setup.bodies; body++) {
            uses += state.trains[body].wheelsWith(teeth);
        }
        return uses;
    }

    // ---- changes ----

    public int build(int body) throws IndexOutOfBoundsException, IllegalStateException {
        needBody(body);
        if (state.stockSize < 2) {
            throw new IllegalStateException("fewer than two numbers in the stock");
        }
        Ratio due = trueOwnOf(body, pointer);
        search.findTrain(state, due);
        history.remember(state);
        Train train = state.trains[body];
        train.size = 0;
        train.append(GEAR, search.wheels[0], search.wheels[1]);
        train.append(GEAR, search.wheels[2], search.wheels[3]);
        if (due.top < 0) {
            train.append(IDLER, state.stockTeeth[0], 0);
        }
        state.lags[body] = 0;
        return train.size;
    }

    public int addPart(int body, int kind, int driver, int driven)
            throws IndexOutOfBoundsException, IllegalArgumentException, IllegalStateException {
        needBody(body);
        needWithin(kind, GEAR, IDLER);
        needWithin(driver, TEETH_MIN, TEETH_MAX);
        if (kind == IDLER) {
            needWithin(driven, 0, 0);
        } else {
            needWithin(driven, TEETH_MIN, TEETH_MAX);
        }
        Train train = state.trains[body];
        if (!train.hasRoomFor(kind)) {
            throw new IllegalStateException("no room for the part");
        }
        history.remember(state);
        train.append(kind, driver, driven);
        state.lags[body] = 0;
        return train.size;
    }

    public int removePart(int body) throws IndexOutOfBoundsException, IllegalStateException {
        needBody(body);
        Train train = state.trains[body];
        if (train.size == 0) {
            throw new IllegalStateException("no part to remove");
        }
        history.remember(state);
        train.size--;
        state.lags[body] = 0;
        return train.size;
    }

    public int addStock(int teeth) throws IllegalArgumentException, IllegalStateException {
        needWithin(teeth, TEETH_MIN, TEETH_MAX);
        if (!state.canTakeStock(teeth)) {
            throw new IllegalStateException("the stock has it, or is full");
        }
        history.remember(state);
        state.insertStock(teeth);
        return state.stockSize;
    }

    public boolean removeStock(int teeth) {
        if (!state.hasStock(teeth)) {
            return false;
        }
        history.remember(state);
        state.dropStock(teeth);
        return true;
    }

    public int setSlack(int slack) throws IllegalArgumentException {
        needWithin(slack, 0, SLACK_MAX);
        int before = state.slack;
        history.remember(state);
        state.slack = slack;
        state.freeAllLags();
        return before;
    }

    public int crank(int day) throws IllegalArgumentException {
        needWithin(day, 0, DAY_MAX);
        int before = state.day;
        history.remember(state);
        for (int body = 0; body < setup.bodies; body++) {
            Ratio turning = pointerOf(body, pointer);
            long difference = turning.drumBy(day) - turning.drumBy(before);
            int most = state.trains[body].playWith(state.slack);
            state.lags[body] = (int) Math.max(0, Math.min(most, state.lags[body] - difference));
        }
        state.day = day;
        return before;
    }

    public int improve(int body) throws IndexOutOfBoundsException {
        needBody(body);
        Train train = state.trains[body];
        nearest.copyFrom(driftOf(body));
        int bestPart = 0;
        int bestSide = 0;
        int teeth = -1;
        for (int part = 0; part < train.size; part++) {
            for (int side = DRIVER; side <= DRIVEN && train.isGeared(part); side++) {
                int better = nearerWheel(body, part, side);
                if (better >= 0) {
                    bestPart = part;
                    bestSide = side;
                    teeth = better;
                }
            }
        }
        if (teeth < 0) {
            return -1;
        }
        history.remember(state);
        train.putCell(bestPart, bestSide, teeth);
        state.lags[body] = 0;
        return teeth;
    }

    public int swapTrains(int body, int other) throws IndexOutOfBoundsException, IllegalArgumentException {
        needTwoBodies(body, other);
        history.remember(state);
        trial.copyFrom(state.trains[body]);
        state.trains[body].copyFrom(state.trains[other]);
        state.trains[other].copyFrom(trial);
        state.lags[body] = 0;
        state.lags[other] = 0;
        return state.trains[body].size;
    }

    public int copyTrain(int body, int other) throws IndexOutOfBoundsException, IllegalArgumentException {
        needTwoBodies(body, other);
        history.remember(state);
        state.trains[other].copyFrom(state.trains[body]);
        state.lags[other] = 0;
        return state.trains[other].size;
    }

    public int undo() {
        return history.stepBack(state);
    }

    public int saveState() {
        history.keep(state);
        return state.day;
    }

    public int restoreState() throws IllegalStateException {
        if (!history.hasKept) {
            throw new IllegalStateException("no state is saved");
        }
        history.bringBack(state);
        return state.day;
    }

    // ---- backlash ----

    public int backlash(int body) throws IndexOutOfBoundsException {
        needBody(body);
        return state.trains[body].playWith(state.slack);
    }

    public int lag(int body) throws IndexOutOfBoundsException {
        needBody(body);
        return state.lags[body];
    }

    public int shown(int body) throws IndexOutOfBoundsException {
        needBody(body);
        long drum = pointerOf(body, pointer).drumBy(state.day);
        return Math.floorMod(drum + state.lags[body], CIRCLE);
    }

    // ---- output ----

    public int printErrors(int body, int first, int last, int step)
            throws IndexOutOfBoundsException, IllegalArgumentException {
        needBody(body);
        needYears(first, last);
        needWithin(step, 1, YEARS - 1);
        Ratio rate = driftOf(body);
        output.length = 0;
        int year = first;
        for (int n = 0; n < PRINT_LIMIT && year <= last; n++) {
            output.putNumber(year);
            output.putByte(':');
            output.putNumber(rate.arcBy(setup.endDay(year)));
            output.putByte(';');
            year += step;
        }
        return output.length;
    }

    public int report(int year) throws IllegalArgumentException {
        needYear(year);
        output.length = 0;
        for (int body = 0; body < setup.bodies; body++) {
            output.putLetters(setup.names[body]);
            output.putByte(':');
            output.putNumber(yearEndError(body, year));
            output.putByte('\n');
        }
        return output.length;
    }

    public int printTrain(int body) throws IndexOutOfBoundsException {
        needBody(body);
        Train train = state.trains[body];
        output.length = 0;
        for (int part = 0; part < train.size; part++) {
            if (part > 0) {
                output.putByte('*');
            }
            putPart(train, part);
        }
        Ratio ratio = pointerOf(body, pointer);
        output.putByte('=');
        output.putNumber(ratio.top);
        output.putByte(':');
        output.putNumber(ratio.bottom);
        return output.length;
    }

    public int outputByte(int index) {
        if (index < 0 || index >= output.length) {
            return -1;
        }
        return output.bytes[index];
    }

    private void putPart(Train train, int part) {
        output.putNumber(train.cell(part, DRIVER));
        if (!train.isGeared(part)) {
            output.putByte('i');
            return;
        }
        output.putByte(train.cell(part, KIND) == RING ? 'o' : '/');
        output.putNumber(train.cell(part, DRIVEN));
    }

    // ---- what the questions share ----

    /** The ratio of a body: its own, plus that of its carrier. */
    private Ratio pointerOf(int body, Ratio into) {
        Train train = state.trains[body];
        into.setTo(train.ratioTop(), train.ratioBottom());
        int carrier = setup.carriers[body];
        if (carrier >= 0) {
            Train under = state.trains[carrier];
            into.addFraction(under.ratioTop(), under.ratioBottom());
        }
        return into;
    }

    /** What a body should make a day. */
    private Ratio trueRateOf(int body, Ratio into) {
        into.setTo(setup.rateTop(body), setup.periods[body]);
        return into;
    }

    /** The own ratio that a body should have. */
    private Ratio trueOwnOf(int body, Ratio into) {
        trueRateOf(body, into);
        int carrier = setup.carriers[body];
        if (carrier >= 0) {
            into.addFraction(-setup.rateTop(carrier), setup.periods[carrier]);
        }
        return into;
    }

    /** The turns a day by which a pointer goes wrong. */
    private Ratio driftOf(int body) {
        pointerOf(body, drift);
        drift.addFraction(-setup.rateTop(body), setup.periods[body]);
        return drift;
    }

    private long yearEndError(int body, int year) {
        return driftOf(body).arcBy(setup.endDay(year));
    }

    private long yearEndMiss(int body, int year) {
        return Math.abs(driftOf(body).arcBy(setup.endDay(year)));
    }

    private int placeAmongMisses(int body) {
        int place = 0;
        for (int other = 0; other < setup.bodies; other++) {
            if (misses[other] < misses[body] || (misses[other] == misses[body] && other < body)) {
                place++;
            }
        }
        return place;
    }

    /** The smaller way round between two angles. */
    private static int wayRound(int one, int two) {
        int way = Math.abs(one - two);
        return Math.min(way, CIRCLE - way);
    }

    private int teethOfAll() {
        int teeth = 0;
        for (int body = 0; body < setup.bodies; body++) {
            teeth += state.trains[body].teethTogether();
        }
        return teeth;
    }

    /**
     * The number of the stock that, at one place of a train, brings the pointer nearer than nearest
     * tells, and nearer than all others do there; -1 if none does. Then nearest tells how near.
     */
    private int nearerWheel(int body, int part, int side) {
        Train train = state.trains[body];
        int before = train.cell(part, side);
        int teeth = -1;
        for (int n = 0; n < state.stockSize; n++) {
            train.putCell(part, side, state.stockTeeth[n]);
            Ratio off = driftOf(body);
            if (Ratio.order(Math.abs(off.top), off.bottom, Math.abs(nearest.top), nearest.bottom) < 0) {
                nearest.copyFrom(off);
                teeth = state.stockTeeth[n];
            }
        }
        // The trials went into the train itself; improve alone decides about the change.
        train.putCell(part, side, before);
        return teeth;
    }

    // ---- what a call refuses ----

    private void needBody(int body) {
        if (body < 0 || body >= setup.bodies) {
            throw new IndexOutOfBoundsException("no such body");
        }
    }

    private void needTwoBodies(int body, int other) {
        needBody(body);
        needBody(other);
        if (body == other) {
            throw new IllegalArgumentException("both bodies are the same");
        }
    }

    private static void needWithin(int value, int least, int most) {
        if (value < least || value > most) {
            throw new IllegalArgumentException("a number is out of range");
        }
    }

    private void needYear(int year) {
        needWithin(year, setup.start, setup.start + YEARS - 1);
    }

    private void needYears(int from, int to) {
        needYear(from);
        needYear(to);
        if (to < from) {
            throw new IllegalArgumentException("the years run backward");
        }
    }

    /** A fraction in lowest terms, with a denominator of 1 or greater. */
    private static final class Ratio {
        long top = 0;
        long bottom = 1;

        void copyFrom(Ratio other) {
            top = other.top;
            bottom = other.bottom;
        }

        void setTo(long newTop, long newBottom) {
            long divisor = commonDivisor(Math.abs(newTop), newBottom);
            top = newTop / divisor;
            bottom = Math.max(1, newBottom / divisor);
        }

        void addFraction(long otherTop, long otherBottom) {
            setTo(top * otherBottom + otherTop * bottom, bottom * otherBottom);
        }

        /** The arcseconds that so many turns a day make by a day, truncated toward zero. */
        long arcBy(int day) {
            long size = Math.abs(top);
            long rest = size % bottom;
            long factor = (long) day * CIRCLE;
            long part = 0;
            long left = 0;
            // rest * factor is too great for a long, so the factor goes in by 12 bits at a time;
            // the denominator is below 10^15, so that 2 * 4096 times it is not too great.
            for (int shift = 36; shift >= 0; shift -= 12) {
                left = left * 4096 + rest * (factor >> shift & 4095);
                part = part * 4096 + left / bottom;
                left %= bottom;
            }
            long arc = size / bottom * factor + part;
            return top < 0 ? -arc : arc;
        }

        /** The whole turns by a day, rounded down. */
        long wholeTurnsBy(int day) {
            return Math.floorDiv(top * day, bottom);
        }

        /** The fraction of the turns by a day, in arcseconds, rounded down. */
        int angleBy(int day) {
            return (int) (Math.floorMod(top * day, bottom) * CIRCLE / bottom);
        }

        /** All the turns by a day, in arcseconds, rounded down. */
        long drumBy(int day) {
            return wholeTurnsBy(day) * CIRCLE + angleBy(day);
        }

        private static long commonDivisor(long one, long two) {
            long divisor = one;
            long rest = two;
            for (int step = 0; step < EUCLID_STEPS && rest != 0; step++) {
                long next = divisor % rest;
                divisor = rest;
                rest = next;
            }
            return divisor > 0 ? divisor : 1;
        }

        /**
         * Compares two fractions that are not negative: below 0 if one / under is the smaller one.
         * It goes down their continued fractions, for the products across may be too great.
         */
        static int order(long one, long oneUnder, long two, long twoUnder) {
            long a = one;
            long b = oneUnder;
            long c = two;
            long d = twoUnder;
            for (int step = 0; step < EUCLID_STEPS && b > 0 && d > 0; step++) {
                int order = Long.compare(a / b, c / d);
                if (order != 0) {
                    return order;
                }
                long oneRest = a % b;
                long twoRest = c % d;
                if (oneRest == 0 || twoRest == 0) {
                    return Long.compare(oneRest, twoRest);
                }
                // The greater rest is that whose turned fraction is the smaller one.
                a = d;
                c = b;
                b = twoRest;
                d = oneRest;
            }
            return 0;
        }
    }

    /** The parts of a train, each in three cells: its kind, its driver and its driven gear. */
    private static final class Train {
        private static final int CELLS = 3;

        private final int[] cells = new int[PART_LIMIT * CELLS];
        int size = 0;

        void copyFrom(Train other) {
            size = other.size;
            System.arraycopy(other.cells, 0, cells, 0, cells.length);
        }

        int cell(int part, int what) {
            int at = part * CELLS + what;
            return at >= 0 && at < cells.length ? cells[at] : 0;
        }

        void putCell(int part, int what, int value) {
            int at = part * CELLS + what;
            if (at >= 0 && at < cells.length) {
                cells[at] = value;
            }
        }

        boolean isGeared(int part) {
            return cell(part, KIND) != IDLER;
        }

        boolean hasRoomFor(int kind) {
            return size < PART_LIMIT && (kind == IDLER || gearedParts() < GEARED_LIMIT);
        }

        void append(int kind, int driver, int driven) {
            if (size < PART_LIMIT) {
                putCell(size, KIND, kind);
                putCell(size, DRIVER, driver);
                putCell(size, DRIVEN, driven);
                size++;
            }
        }

        private int gearedParts() {
            int geared = 0;
            for (int part = 0; part < size; part++) {
                // Asked of the cell itself, for the calls must not go too deep here.
                if (cells[part * CELLS + KIND] != IDLER) {
                    geared++;
                }
            }
            return geared;
        }

        int meshes() {
            return 2 * size - gearedParts();
        }

        int teethTogether() {
            int teeth = 0;
            for (int part = 0; part < size; part++) {
                teeth += cell(part, DRIVER) + cell(part, DRIVEN);
            }
            return teeth;
        }

        int wheelsWith(int teeth) {
            int wheels = 0;
            for (int part = 0; part < size; part++) {
                if (cell(part, DRIVER) == teeth) {
                    wheels++;
                }
                if (isGeared(part) && cell(part, DRIVEN) == teeth) {
                    wheels++;
                }
            }
            return wheels;
        }

        /** The numerator of the own ratio, not in lowest terms. */
        long ratioTop() {
            if (size == 0) {
                return 0;
            }
            long top = 1;
            for (int part = 0; part < size; part++) {
                int kind = cell(part, KIND);
                top *= kind == RING ? 1 : -1;
                top *= kind == IDLER ? 1 : cell(part, DRIVER);
            }
            return top;
        }

        /** The denominator of the own ratio, not in lowest terms. */
        long ratioBottom() {
            long bottom = 1;
            for (int part = 0; part < size; part++) {
                bottom *= isGeared(part) ? cell(part, DRIVEN) : 1;
            }
            return bottom;
        }

        /** The backlash at the end of the train when each mesh has this slack. */
        int playWith(int slack) {
            long top = 0;
            long bottom = 1;
            for (int part = 0; part < size; part++) {
                if (isGeared(part)) {
                    bottom *= cell(part, DRIVEN);
                    top = top * cell(part, DRIVER) + slack * bottom;
                } else {
                    top += 2 * slack * bottom;
                }
            }
            return bottom > 0 ? (int) (top / bottom) : 0;
        }
    }

    /** All that changes can change: stock, slack, trains, crank and lags. */
    private static final class State {
        final int[] stockTeeth = new int[STOCK_LIMIT];
        int stockSize = 0;
        int slack = SLACK_USUAL;
        int day = 0;
        final int[] lags = new int[BODY_LIMIT];
        final Train[] trains = new Train[BODY_LIMIT];

        State() {
            for (int body = 0; body < BODY_LIMIT; body++) {
                trains[body] = new Train();
            }
        }

        void clearAll() {
            stockSize = 0;
            slack = SLACK_USUAL;
            day = 0;
            freeAllLags();
            for (int body = 0; body < BODY_LIMIT; body++) {
                trains[body].size = 0;
            }
        }

        void copyFrom(State other) {
            System.arraycopy(other.stockTeeth, 0, stockTeeth, 0, STOCK_LIMIT);
            stockSize = other.stockSize;
            slack = other.slack;
            day = other.day;
            System.arraycopy(other.lags, 0, lags, 0, BODY_LIMIT);
            for (int body = 0; body < BODY_LIMIT; body++) {
                trains[body].copyFrom(other.trains[body]);
            }
        }

        void freeAllLags() {
            for (int body = 0; body < BODY_LIMIT; body++) {
                lags[body] = 0;
            }
        }

        boolean hasStock(int teeth) {
            for (int n = 0; n < stockSize; n++) {
                if (stockTeeth[n] == teeth) {
                    return true;
                }
            }
            return false;
        }

        boolean canTakeStock(int teeth) {
            return stockSize < STOCK_LIMIT && !hasStock(teeth);
        }

        void insertStock(int teeth) {
            if (stockSize >= STOCK_LIMIT) {
                return;
            }
            int place = stockSize;
            while (place > 0 && stockTeeth[place - 1] > teeth) {
                stockTeeth[place] = stockTeeth[place - 1];
                place--;
            }
            stockTeeth[place] = teeth;
            stockSize++;
        }

        void dropStock(int teeth) {
            int kept = 0;
            for (int n = 0; n < stockSize; n++) {
                if (stockTeeth[n] != teeth) {
                    stockTeeth[kept] = stockTeeth[n];
                    kept++;
                }
            }
            stockSize = kept;
        }
    }

    /** The states before the latest changes, the newest last in a ring, and the saved state. */
    private static final class History {
        private final State[] ring = new State[UNDO_LIMIT];
        private int newest = 0;
        int size = 0;
        private final State kept = new State();
        boolean hasKept = false;

        History() {
            for (int n = 0; n < UNDO_LIMIT; n++) {
                ring[n] = new State();
            }
        }

        void forgetAll() {
            size = 0;
            hasKept = false;
        }

        void remember(State state) {
            newest = (newest + 1) % UNDO_LIMIT;
            ring[newest].copyFrom(state);
            size = Math.min(size + 1, UNDO_LIMIT);
        }

        int stepBack(State state) {
            if (size == 0) {
                return -1;
            }
            state.copyFrom(ring[newest]);
            newest = (newest + UNDO_LIMIT - 1) % UNDO_LIMIT;
            size--;
            return size;
        }

        void keep(State state) {
            kept.copyFrom(state);
            hasKept = true;
        }

        void bringBack(State state) {
            state.copyFrom(kept);
            size = 0;
        }
    }

    /** What a load alone can change: the start year and the bodies. */
    private static final class Setup {
        int start = START_USUAL;
        int bodies = 0;
        final long[] names = new long[BODY_LIMIT];
        final int[] periods = new int[BODY_LIMIT];
        final boolean[] retro = new boolean[BODY_LIMIT];
        final int[] carriers = new int[BODY_LIMIT];

        void clearAll() {
            start = START_USUAL;
            bodies = 0;
        }

        void copyFrom(Setup other) {
            start = other.start;
            bodies = other.bodies;
            System.arraycopy(other.names, 0, names, 0, BODY_LIMIT);
            System.arraycopy(other.periods, 0, periods, 0, BODY_LIMIT);
            System.arraycopy(other.retro, 0, retro, 0, BODY_LIMIT);
            System.arraycopy(other.carriers, 0, carriers, 0, BODY_LIMIT);
        }

        void takeBody(long name, int period, boolean backward, int carrier) {
            if (bodies < BODY_LIMIT) {
                names[bodies] = name;
                periods[bodies] = period;
                retro[bodies] = backward;
                carriers[bodies] = carrier;
                bodies++;
            }
        }

        int placeOf(long name) {
            for (int body = 0; body < bodies; body++) {
                if (names[body] == name) {
                    return body;
                }
            }
            return -1;
        }

        /** The numerator of what a body should make a day; its denominator is the period. */
        long rateTop(int body) {
            return retro[body] ? -100 : 100;
        }

        /** The day with which a year ends; for the year before the start that is day 0. */
        int endDay(int year) {
            return 365 * (year - start + 1) + leapYearsTo(year) - leapYearsTo(start - 1);
        }

        int yearWith(int day) {
            // No year has more than 366 days, so that the year is not before this one.
            int year = start + day / 366;
            for (int n = 0; n < YEARS && endDay(year) <= day; n++) {
                year++;
            }
            return year;
        }

        /** The years with 366 days from year 1 to a year. */
        static int leapYearsTo(int year) {
            return year / 4 - year / 100 + year / 400;
        }
    }

    /** Searches for the fractions that are nearest to a target. */
    private static final class GearSearch {
        final int[] wheels = new int[4];
        private long targetTop = 0;
        private long targetBottom = 1;
        private boolean found = false;
        private long leastOver = 0;
        private long leastUnder = 1;
        private int leastSum = 0;

        private void aimAt(Ratio target) {
            targetTop = Math.abs(target.top);
            targetBottom = target.bottom;
            found = false;
        }

        /** Puts the best pair of the stock into the first two wheels. */
        void findPair(State state, Ratio target) {
            aimAt(target);
            for (int a = 0; a < state.stockSize; a++) {
                for (int b = 0; b < state.stockSize; b++) {
                    if (a != b) {
                        weigh(state.stockTeeth[a], state.stockTeeth[b], 1, 1);
                    }
                }
            }
        }

        /** Puts the best two pairs of the stock into the wheels. */
        void findTrain(State state, Ratio target) {
            aimAt(target);
            for (int a = 0; a < state.stockSize; a++) {
                for (int b = 0; b < state.stockSize; b++) {
                    if (a != b) {
                        weighTrainsFrom(state, a, b);
                    }
                }
            }
        }

        private void weighTrainsFrom(State state, int a, int b) {
            for (int c = a; c < state.stockSize; c++) {
                for (int d = c == a ? b : 0; d < state.stockSize; d++) {
                    if (c != d) {
                        weigh(state.stockTeeth[a], state.stockTeeth[b], state.stockTeeth[c], state.stockTeeth[d]);
                    }
                }
            }
        }

        /** Keeps a train that is better than all before it; they come in ascending order. */
        private void weigh(int a, int b, int c, int d) {
            long under = (long) b * d;
            long over = Math.abs((long) a * c * targetBottom - under * targetTop);
            int sum = a + b + c + d;
            int order = found ? Ratio.order(over, under, leastOver, leastUnder) : -1;
            if (order < 0 || (order == 0 && sum < leastSum)) {
                found = true;
                leastOver = over;
                leastUnder = under;
                leastSum = sum;
                wheels[0] = a;
                wheels[1] = b;
                wheels[2] = c;
                wheels[3] = d;
            }
        }

        /** The denominator up to a limit with which a fraction gets nearest to 100 / period. */
        int nearestDenominator(int period, int limit) {
            int best = 1;
            long least = distanceTo(period, 1);
            for (int bottom = 2; bottom <= limit; bottom++) {
                long distance = distanceTo(period, bottom);
                if (distance * best < least * bottom) {
                    best = bottom;
                    least = distance;
                }
            }
            return best;
        }

        /** The numerator that goes best with a denominator, the smaller one on a tie. */
        static int nearestNumerator(int period, int bottom) {
            int below = period > 0 ? 100 * bottom / period : 0;
            long under = 100L * bottom - (long) below * period;
            return under <= period - under ? below : below + 1;
        }

        private static long distanceTo(int period, int bottom) {
            return Math.abs(100L * bottom - (long) nearestNumerator(period, bottom) * period);
        }
    }

    /** The words that are no names. */
    private enum Word {
        STOCK("stock"),
        START("start"),
        SLACK("slack"),
        BODY("body"),
        PERIOD("period"),
        RETRO("retro"),
        ON("on"),
        TRAIN("train"),
        GEAR_PART("gear"),
        RING_PART("ring"),
        IDLER_PART("idler");

        private static final Word[] ALL = values();

        final long letters;

        Word(String text) {
            letters = packed(text);
        }

        private static long packed(String text) {
            long letters = 0;
            for (int n = 0; n < text.length(); n++) {
                letters = letters << 8 | text.charAt(n);
            }
            return letters;
        }

        static boolean isOne(long letters) {
            for (int n = 0; n < ALL.length; n++) {
                if (ALL[n].letters == letters) {
                    return true;
                }
            }
            return false;
        }
    }

    /** The input buffer, and its tokens one after the other. */
    private static final class Tokens {
        static final int END = 0;
        static final int WORD = 1;
        static final int NUMBER = 2;
        static final int SEMICOLON = 3;
        static final int STRAY = 4;

        private final byte[] text = new byte[INPUT_LIMIT];
        int length = 0;

        int kind = END;
        int start = 0;
        private int end = 0;
        int value = 0;
        // A word of up to 8 letters fits into a long, a byte a letter, and needs no text object;
        // a longer one, which is neither a name nor reserved, is 0.
        long letters = 0;

        void appendBytes(int four) {
            for (int shift = 24; shift >= 0; shift -= 8) {
                if (length < INPUT_LIMIT) {
                    text[length] = (byte) (four >> shift);
                    length++;
                }
            }
        }

        void rewind() {
            end = 0;
            advance();
        }

        void advance() {
            start = end;
            while (start < length && (text[start] == ' ' || text[start] == '\n')) {
                start++;
            }
            end = start;
            if (start >= length) {
                kind = END;
                return;
            }
            kind = kindOf(text[start]);
            end++;
            if (kind == WORD || kind == NUMBER) {
                while (end < length && kindOf(text[end]) == kind) {
                    end++;
                }
                takeRun();
            }
        }

        private static int kindOf(byte sign) {
            if (sign >= 'a' && sign <= 'z') {
                return WORD;
            }
            if (sign >= '0' && sign <= '9') {
                return NUMBER;
            }
            return sign == ';' ? SEMICOLON : STRAY;
        }

        private void takeRun() {
            letters = 0;
            value = 0;
            if (kind == WORD && end - start <= NAME_LETTERS) {
                for (int at = start; at < end; at++) {
                    letters = letters << 8 | text[at];
                }
            }
            if (kind == NUMBER && end - start > NUMBER_DIGITS) {
                kind = STRAY;
            }
            if (kind == NUMBER) {
                for (int at = start; at < end; at++) {
                    value = value * 10 + text[at] - '0';
                }
            }
        }

        boolean isWord(Word word) {
            return kind == WORD && letters == word.letters;
        }

        boolean isName() {
            return kind == WORD && letters != 0 && !Word.isOne(letters);
        }
    }

    /** Reads the setup text into a setup and a state of its own, up to the first error. */
    private static final class SetupReader {
        final Tokens tokens = new Tokens();
        final Setup setup = new Setup();
        final State state = new State();
        int code = NO_ERROR;
        int offset = -1;
        private boolean stockStands = false;
        private boolean startStands = false;
        private boolean slackStands = false;

        boolean readText() {
            code = NO_ERROR;
            offset = -1;
            setup.clearAll();
            state.clearAll();
            stockStands = false;
            startStands = false;
            slackStands = false;
            tokens.rewind();
            boolean good = true;
            for (int n = 0; n < INPUT_LIMIT && good && tokens.kind != Tokens.END; n++) {
                good = readStatement() && readSemicolon();
            }
            return good;
        }

        private boolean fail(int newCode) {
            code = newCode;
            offset = tokens.start;
            return false;
        }

        private boolean readStatement() {
            if (tokens.isWord(Word.STOCK)) {
                return readStock();
            }
            if (tokens.isWord(Word.START)) {
                return readStart();
            }
            if (tokens.isWord(Word.SLACK)) {
                return readSlack();
            }
            if (tokens.isWord(Word.BODY)) {
                return readBody();
            }
            if (tokens.isWord(Word.TRAIN)) {
                return readTrain();
            }
            return fail(SYNTAX);
        }

        private boolean readSemicolon() {
            if (tokens.kind != Tokens.SEMICOLON) {
                return fail(SYNTAX);
            }
            tokens.advance();
            return true;
        }

        /** Whether a number of a range stands here, which stays the token; else an error. */
        private boolean numberStands(int least, int most) {
            if (tokens.kind != Tokens.NUMBER) {
                return fail(SYNTAX);
            }
            return (tokens.value >= least && tokens.value <= most) || fail(OUT_OF_RANGE);
        }

        private boolean nameStands() {
            return tokens.isName() || fail(SYNTAX);
        }

        private boolean readStock() {
            if (stockStands) {
                return fail(MISPLACED);
            }
            stockStands = true;
            tokens.advance();
            for (int n = 0; n <= STOCK_LIMIT && (n == 0 || tokens.kind == Tokens.NUMBER); n++) {
                if (!numberStands(TEETH_MIN, TEETH_MAX)) {
                    return false;
                }
                if (!state.canTakeStock(tokens.value)) {
                    return fail(MISPLACED);
                }
                state.insertStock(tokens.value);
                tokens.advance();
            }
            return true;
        }

        private boolean readStart() {
            if (startStands) {
                return fail(MISPLACED);
            }
            startStands = true;
            tokens.advance();
            if (!numberStands(START_MIN, START_MAX)) {
                return false;
            }
            setup.start = tokens.value;
            tokens.advance();
            return true;
        }

        private boolean readSlack() {
            if (slackStands) {
                return fail(MISPLACED);
            }
            slackStands = true;
            tokens.advance();
            if (!numberStands(0, SLACK_MAX)) {
                return false;
            }
            state.slack = tokens.value;
            tokens.advance();
            return true;
        }

        private boolean readBody() {
            if (setup.bodies >= BODY_LIMIT) {
                return fail(MISPLACED);
            }
            tokens.advance();
            if (!nameStands()) {
                return false;
            }
            long name = tokens.letters;
            if (setup.placeOf(name) >= 0) {
                return fail(BAD_NAME);
            }
            tokens.advance();
            if (!tokens.isWord(Word.PERIOD)) {
                return fail(SYNTAX);
            }
            tokens.advance();
            if (!numberStands(PERIOD_MIN, PERIOD_MAX)) {
                return false;
            }
            int period = tokens.value;
            tokens.advance();
            boolean backward = tokens.isWord(Word.RETRO);
            if (backward) {
                tokens.advance();
            }
            if (!tokens.isWord(Word.ON)) {
                setup.takeBody(name, period, backward, -1);
                return true;
            }
            tokens.advance();
            if (!nameStands()) {
                return false;
            }
            int carrier = setup.placeOf(tokens.letters);
            if (carrier < 0 || setup.carriers[carrier] >= 0) {
                return fail(BAD_NAME);
            }
            setup.takeBody(name, period, backward, carrier);
            tokens.advance();
            return true;
        }

        private boolean readTrain() {
            tokens.advance();
            if (!nameStands()) {
                return false;
            }
            int body = setup.placeOf(tokens.letters);
            if (body < 0) {
                return fail(BAD_NAME);
            }
            Train train = state.trains[body];
            // Each train that was read has a part.
            if (train.size > 0) {
                return fail(MISPLACED);
            }
            tokens.advance();
            for (int n = 0; n <= PART_LIMIT && (n == 0 || kindOfPart() >= 0); n++) {
                if (!readPart(train)) {
                    return false;
                }
            }
            return true;
        }

        private int kindOfPart() {
            if (tokens.isWord(Word.GEAR_PART)) {
                return GEAR;
            }
            if (tokens.isWord(Word.RING_PART)) {
                return RING;
            }
            return tokens.isWord(Word.IDLER_PART) ? IDLER : -1;
        }

        private boolean readPart(Train train) {
            int kind = kindOfPart();
            if (kind < 0) {
                return fail(SYNTAX);
            }
            if (!train.hasRoomFor(kind)) {
                return fail(MISPLACED);
            }
            tokens.advance();
            if (!numberStands(TEETH_MIN, TEETH_MAX)) {
                return false;
            }
            int driver = tokens.value;
            tokens.advance();
            if (kind == IDLER) {
                train.append(kind, driver, 0);
                return true;
            }
            if (!numberStands(TEETH_MIN, TEETH_MAX)) {
                return false;
            }
            train.append(kind, driver, tokens.value);
            tokens.advance();
            return true;
        }
    }

    /** The bytes that the latest print call wrote. */
    private static final class Output {
        final byte[] bytes = new byte[OUTPUT_LIMIT];
        int length = 0;

        void putByte(int sign) {
            if (length < OUTPUT_LIMIT) {
                bytes[length] = (byte) sign;
                length++;
            }
        }

        void putNumber(long number) {
            if (number < 0) {
                putByte('-');
            }
            long size = Math.abs(number);
            long power = 1;
            for (int n = 0; n < 18 && size / power >= 10; n++) {
                power *= 10;
            }
            for (int n = 0; n < 19 && power > 0; n++) {
                putByte((int) ('0' + size / power % 10));
                power /= 10;
            }
        }

        /** Puts a word that is packed into a long, a byte a letter. */
        void putLetters(long letters) {
            for (int shift = 56; shift >= 0; shift -= 8) {
                int sign = (int) (letters >> shift & 127);
                if (sign != 0) {
                    putByte(sign);
                }
            }
        }
    }
}
