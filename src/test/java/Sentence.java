import java.util.ArrayList;
import java.util.List;

/** A test that names the promise and the sentences of the document that it holds, word by word. */
final class Sentence {
    /** The part of the document in front of promise 1, where it has no number. */
    static final int DESCRIPTION = 0;

    static final String NO_BODY = "Throws `IndexOutOfBoundsException` if body is out of range";
    static final String NO_BODY_OR_OTHER = "Throws `IndexOutOfBoundsException` if body or other is out of range";
    static final String NO_WHAT = "Throws `IllegalArgumentException` if what is out of range";
    static final String NO_YEAR = "Throws `IllegalArgumentException` if year is out of range";
    static final String NO_DAY = "Throws `IllegalArgumentException` if day is out of range";
    static final String A_YEAR = "- `year`: a year, start to start + 999";
    static final String A_DAY = "- `day`: 0 to 400000";
    static final String A_CHANGE = "This is a change.";

    private static final List<Sentence> TESTED = new ArrayList<>();

    final int promise;
    final String[] quotes;

    private Sentence(int promise, String[] quotes) {
        this.promise = promise;
        this.quotes = quotes;
    }

    static Sentence of(int promise, String... quotes) {
        return new Sentence(promise, quotes);
    }

    static List<Sentence> tested() {
        return TESTED;
    }

    void holds(Runnable test) {
        TESTED.add(this);
        Check.at((promise == DESCRIPTION ? "description" : "promise " + promise) + ", \"" + quotes[0] + "\": ");
        int before = Check.checks();
        try {
            test.run();
        } catch (RuntimeException e) {
            Check.fail("throws " + e);
        }
        if (Check.checks() == before) {
            Check.fail("checks nothing");
        }
        Check.at("");
    }
}
