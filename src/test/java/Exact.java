import java.math.BigInteger;
import java.time.LocalDate;
import java.time.temporal.ChronoUnit;

/** Turns and days, reckoned apart from the class. */
final class Exact {
    private static final BigInteger CIRCLE = BigInteger.valueOf(1296000);

    private Exact() {
    }

    /** The day with which a year ends. */
    static int endOf(int start, int year) {
        return (int) ChronoUnit.DAYS.between(LocalDate.of(start, 1, 1), LocalDate.of(year + 1, 1, 1));
    }

    /** The arcseconds of top / bottom turns a day by a day, truncated toward zero. */
    static long truncated(long top, long bottom, int day) {
        return arc(top, day).divide(BigInteger.valueOf(bottom)).longValueExact();
    }

    /** The same, rounded down. */
    static long floored(long top, long bottom, int day) {
        BigInteger[] parts = arc(top, day).divideAndRemainder(BigInteger.valueOf(bottom));
        return parts[0].longValueExact() - (parts[1].signum() < 0 ? 1 : 0);
    }

    private static BigInteger arc(long top, int day) {
        return BigInteger.valueOf(top).multiply(BigInteger.valueOf(day)).multiply(CIRCLE);
    }
}
