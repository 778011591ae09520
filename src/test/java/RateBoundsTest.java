/** Promises 6 to 9 at the bounds that they name, and the calls that they refuse. */
public final class RateBoundsTest {
    public static void main(String[] args) {
        headingOfARate();
        landOfARate();
        kindOfARate();
        numbersOfARate();
        daysOfARate();
        thereAre40Rates();
        whereToFindARate();
        lastForThisLandThenForAll();
        noRate();
        headingAndLandOfAQuota();
        unitsOfAQuota();
        numberOfAQuota();
        daysOfAQuota();
        thereAre8Quotas();
        noSuchQuota();
        Run.finish();
    }

    private static void headingOfARate() {
        new Run("promise 6: a heading that is none")
            .only(0, -1, "rate(?, -1, 0, 1, 1, 0, 9)")
            .rows("heading(-1) -> 0\nheading(-1) -> 1")
            .only(0, 1, "rate(?, -1, 0, 1, 1, 0, 9)")
            .rows("""
            rate(1, -1, 0, 1, 1, 0, 9) -> 0
            rate(0, -1, 0, 1, 1, 0, 9) -> 1
            rateFor(1, 0, 0) -> 0
            rateFor(0, 0, 0) -> 1
            """);
    }

    private static void landOfARate() {
        new Run("promise 6: land = -1 is for all lands").rows("heading(-1) -> 0")
            .only(-1, 7, "rate(0, ?, 0, 1, 1, 0, 9)")
            .rows("""
            rate(0, 7, 0, 1, 1, 0, 9) -> 0
            rate(0, 0, 0, 1, 1, 0, 9) -> 1
            rateFor(0, 3, 0) -> -1
            rate(0, -1, 0, 1, 1, 0, 9) -> 2
            rateFor(0, 0, 0) -> 1
            rateFor(0, 1, 0) -> 2
            rateFor(0, 6, 0) -> 2
            rateFor(0, 7, 0) -> 0
            """);
    }

    private static void kindOfARate() {
        new Run("promise 6: kind is not 0 .. 3").rows("heading(-1) -> 0")
            .only(0, 3, "rate(0, -1, ?, 1, 1, 0, 9)")
            .rows("""
            rate(0, 0, 0, 100, 3, 0, 9) -> 0
            rate(0, 3, 3, 100, 3, 0, 9) -> 1
            declare(5, 0) -> 0
            line(0, 0, 0, 1, 2, 1000, false) -> 0
            line(0, 0, 3, 1, 2, 1000, false) -> 1
            lineOf(0, 0, 2) -> 10
            lineOf(0, 1, 2) -> 16
            """);
    }

    private static void numbersOfARate() {
        new Run("promise 6: a or b not 0 .. 10000").rows("heading(-1) -> 0")
            .only(0, 10000, "rate(0, -1, 3, ?, 1, 0, 9)")
            .only(0, 10000, "rate(0, -1, 3, 1, ?, 0, 9)")
            .rows("""
            rate(0, 0, 3, 0, 10000, 0, 9) -> 0
            rate(0, 1, 3, 10000, 0, 0, 9) -> 1
            rate(0, 2, 3, 10000, 10000, 0, 9) -> 2
            rate(0, 3, 3, 0, 0, 0, 9) -> 3
            declare(5, 0) -> 0
            line(0, 0, 0, 1, 2, 77, false) -> 0
            line(0, 0, 1, 1, 2, 77, false) -> 1
            line(0, 0, 2, 1, 2, 77, false) -> 2
            line(0, 0, 3, 1, 2, 77, false) -> 3
            lineOf(0, 0, 2) -> 20000
            lineOf(0, 1, 2) -> 77
            lineOf(0, 2, 2) -> 20077
            lineOf(0, 3, 2) -> 0
            """);
    }

    private static void daysOfARate() {
        new Run("promise 6: from is behind to").rows("heading(-1) -> 0")
            .only(0, 9999, "rate(0, -1, 0, 1, 1, ?, 9999)")
            .only(0, 9999, "rate(0, -1, 0, 1, 1, 0, ?)")
            .rows("""
            rate(0, -1, 0, 1, 1, 6, 5) -> IllegalArgumentException
            rate(0, -1, 0, 1, 1, 1, 0) -> IllegalArgumentException
            rate(0, -1, 0, 1, 1, 9999, 9998) -> IllegalArgumentException
            rate(0, -1, 0, 1, 1, 9999, 0) -> IllegalArgumentException
            rate(0, -1, 0, 1, 1, -1, -1) -> IllegalArgumentException
            rate(0, -1, 0, 1, 1, 10000, 10000) -> IllegalArgumentException
            rate(0, -1, 0, 1, 1, 5, 5) -> 0
            rateFor(0, 0, 4) -> -1
            rateFor(0, 0, 5) -> 0
            rateFor(0, 0, 6) -> -1
            rate(0, -1, 0, 1, 1, 0, 9999) -> 1
            rate(0, -1, 0, 1, 1, 0, 0) -> 2
            rate(0, -1, 0, 1, 1, 9999, 9999) -> 3
            rateFor(0, 0, 0) -> 2
            rateFor(0, 0, 1) -> 1
            rateFor(0, 0, 9999) -> 3
            """);
    }

    private static void thereAre40Rates() {
        new Run("promise 6: there are 40").rows("heading(-1) -> 0")
            .counting(39, "rate(0, -1, 0, 1, 1, 0, 8)", 0)
            .rows("""
            rate(0, -1, 0, 1, 1, 9, 9) -> 39
            rateFor(0, 0, 8) -> 38
            rateFor(0, 0, 9) -> 39
            rate(0, -1, 0, 1, 1, 0, 9) -> IllegalStateException
            rateFor(0, 0, 8) -> 38
            """)
            // what follows is named first
            .only(0, 0, "rate(?, -1, 0, 1, 1, 0, 9)")
            .only(-1, 7, "rate(0, ?, 0, 1, 1, 0, 9)")
            .only(0, 3, "rate(0, -1, ?, 1, 1, 0, 9)")
            .only(0, 10000, "rate(0, -1, 0, ?, 1, 0, 9)")
            .only(0, 10000, "rate(0, -1, 0, 1, ?, 0, 9)")
            .only(0, 9999, "rate(0, -1, 0, 1, 1, ?, 9999)")
            .only(0, 9999, "rate(0, -1, 0, 1, 1, 0, ?)")
            .rows("rate(0, -1, 0, 1, 1, 9, 8) -> IllegalArgumentException");
    }

    private static void whereToFindARate() {
        new Run("promise 7: a heading, a land or a day that is none")
            .only(0, -1, "rateFor(?, 0, 0)")
            .rows("""
            heading(-1) -> 0
            heading(0) -> 1
            rate(0, -1, 0, 1, 1, 0, 9999) -> 0
            """)
            .only(0, 1, "rateFor(?, 0, 0)")
            .only(0, 7, "rateFor(0, ?, 0)")        // -1 is no land here
            .only(0, 9999, "rateFor(0, 0, ?)")
            .rows("""
            rateFor(0, 0, 0) -> 0
            rateFor(1, 7, 9999) -> 0
            """);
    }

    private static void lastForThisLandThenForAll() {
        new Run("promise 7: the last for this land, the last for all, the parent's").rows("""
            heading(-1) -> 0
            heading(0) -> 1
            rate(0, 2, 0, 1, 1, 0, 9999) -> 0
            rateFor(1, 2, 5) -> 0
            rate(1, -1, 0, 1, 1, 5, 5) -> 1
            rate(1, -1, 0, 1, 1, 5, 5) -> 2
            rateFor(1, 2, 5) -> 2
            rateFor(1, 2, 4) -> 0
            rate(1, 2, 0, 1, 1, 5, 5) -> 3
            rate(1, 2, 0, 1, 1, 5, 5) -> 4
            rate(1, -1, 0, 1, 1, 5, 5) -> 5
            rateFor(1, 2, 5) -> 4
            rateFor(1, 3, 5) -> 5
            rateFor(0, 2, 5) -> 0
            """);
    }

    private static void noRate() {
        new Run("promise 7: NONE when there is none").rows("""
            heading(-1) -> 0
            heading(0) -> 1
            heading(0) -> 2
            rateFor(1, 0, 5) -> -1
            rate(2, -1, 0, 1, 1, 0, 9999) -> 0
            rateFor(1, 0, 5) -> -1                 # beside it
            rateFor(0, 0, 5) -> -1                 # and under it
            rate(0, 1, 0, 1, 1, 0, 9999) -> 1
            rateFor(1, 0, 5) -> -1                 # for another land
            rate(0, 0, 0, 1, 1, 6, 9999) -> 2
            rateFor(1, 0, 5) -> -1                 # not yet
            rateFor(1, 0, 6) -> 2
            """);
    }

    private static void headingAndLandOfAQuota() {
        new Run("promise 8: a heading or land that is none")
            .only(0, -1, "quota(?, 0, 1, 0, 0, 9)")
            .rows("heading(-1) -> 0\nheading(-1) -> 1")
            .only(0, 1, "quota(?, 0, 1, 0, 0, 9)")
            .only(0, 7, "quota(0, ?, 1, 0, 0, 9)") // -1 is no land here
            .rows("""
            quota(0, 0, 1, 0, 0, 9) -> 0
            quota(1, 7, 1, 0, 0, 9) -> 1
            """);
    }

    private static void unitsOfAQuota() {
        new Run("promise 8: units is not 1 .. 100000").rows("heading(-1) -> 0")
            .only(1, 100000, "quota(0, 0, ?, 0, 0, 9)")
            .rows("""
            quota(0, 0, 1, 0, 0, 9) -> 0
            quota(0, 0, 100000, 0, 0, 9) -> 1
            quotaLeft(0) -> 1
            quotaLeft(1) -> 100000
            """);
    }

    private static void numberOfAQuota() {
        new Run("promise 8: a not 0 .. 10000").rows("heading(-1) -> 0")
            .only(0, 10000, "quota(0, 0, 1, ?, 0, 9)")
            .rows("""
            rate(0, -1, 0, 5000, 0, 0, 9) -> 0
            quota(0, 0, 1, 0, 0, 9) -> 0
            quota(0, 1, 1, 10000, 0, 9) -> 1
            declare(5, 0) -> 0
            line(0, 0, 0, 1, 0, 100, false) -> 0
            line(0, 0, 1, 1, 0, 100, false) -> 1
            line(0, 0, 2, 1, 0, 100, false) -> 2
            lineOf(0, 0, 2) -> 0
            lineOf(0, 1, 2) -> 100                 # more than by the rate
            lineOf(0, 2, 2) -> 50
            """);
    }

    private static void daysOfAQuota() {
        new Run("promise 8: from is behind to").rows("heading(-1) -> 0")
            .only(0, 9999, "quota(0, 0, 1, 0, ?, 9999)")
            .only(0, 9999, "quota(0, 0, 1, 0, 0, ?)")
            .rows("""
            quota(0, 0, 1, 0, 6, 5) -> IllegalArgumentException
            quota(0, 0, 1, 0, 1, 0) -> IllegalArgumentException
            quota(0, 0, 1, 0, 9999, 9998) -> IllegalArgumentException
            quota(0, 0, 1, 0, 9999, 0) -> IllegalArgumentException
            quota(0, 0, 1, 0, -1, -1) -> IllegalArgumentException
            quota(0, 0, 1, 0, 10000, 10000) -> IllegalArgumentException
            quota(0, 0, 1, 0, 5, 5) -> 0
            quota(0, 0, 1, 0, 0, 9999) -> 1
            quota(0, 0, 1, 0, 0, 0) -> 2
            quota(0, 0, 1, 0, 9999, 9999) -> 3
            """);
    }

    private static void thereAre8Quotas() {
        new Run("promise 8: there are 8").rows("heading(-1) -> 0")
            .counting(8, "quota(0, 0, 5, 0, 0, 9)", 0)
            .rows("""
            quota(0, 0, 5, 0, 0, 9) -> IllegalStateException
            quotaLeft(7) -> 5
            """)
            // what follows is named first
            .only(0, 0, "quota(?, 0, 5, 0, 0, 9)")
            .only(0, 7, "quota(0, ?, 5, 0, 0, 9)")
            .only(1, 100000, "quota(0, 0, ?, 0, 0, 9)")
            .only(0, 10000, "quota(0, 0, 5, ?, 0, 9)")
            .only(0, 9999, "quota(0, 0, 5, 0, ?, 9999)")
            .only(0, 9999, "quota(0, 0, 5, 0, 0, ?)")
            .rows("quota(0, 0, 5, 0, 9, 8) -> IllegalArgumentException");
    }

    private static void noSuchQuota() {
        new Run("promise 9: there is no such quota")
            .only(0, -1, "quotaLeft(?)")
            .rows("heading(-1) -> 0\nquota(0, 0, 3, 0, 0, 9) -> 0")
            .only(0, 0, "quotaLeft(?)")
            .rows("quotaLeft(0) -> 3")
            .counting(7, "quota(0, 0, 4, 0, 0, 9)", 1)
            .only(0, 7, "quotaLeft(?)")
            .rows("""
            quotaLeft(0) -> 3
            quotaLeft(7) -> 4
            """);
    }
}
