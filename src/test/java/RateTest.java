/** Promises 6 to 9: rates and quotas. */
public final class RateTest {
    public static void main(String[] args) {
        rateArguments();
        rateLimit();
        rateForOneHeading();
        rateForHeadingsAbove();
        quotaArguments();
        quotaLimit();
        Run.finish();
    }

    private static void rateArguments() {
        new Run("promise 6").rows("""
            heading(-1) -> 0
            rate(1, -1, 0, 0, 0, 0, 0) -> IllegalArgumentException
            rate(-1, -1, 0, 0, 0, 0, 0) -> IllegalArgumentException
            rate(0, -2, 0, 0, 0, 0, 0) -> IllegalArgumentException
            rate(0, 8, 0, 0, 0, 0, 0) -> IllegalArgumentException
            rate(0, -1, -1, 0, 0, 0, 0) -> IllegalArgumentException
            rate(0, -1, 4, 0, 0, 0, 0) -> IllegalArgumentException
            rate(0, -1, 0, -1, 0, 0, 0) -> IllegalArgumentException
            rate(0, -1, 0, 10001, 0, 0, 0) -> IllegalArgumentException
            rate(0, -1, 0, 0, -1, 0, 0) -> IllegalArgumentException
            rate(0, -1, 0, 0, 10001, 0, 0) -> IllegalArgumentException
            rate(0, -1, 0, 0, 0, -1, 0) -> IllegalArgumentException
            rate(0, -1, 0, 0, 0, 0, 10000) -> IllegalArgumentException
            rate(0, -1, 0, 0, 0, 1, 0) -> IllegalArgumentException
            rateFor(0, 0, 0) -> -1
            rate(0, 7, 3, 10000, 10000, 9999, 9999) -> 0
            rate(0, -1, 0, 0, 0, 0, 0) -> 1
            rate(0, 0, 1, 0, 0, 0, 9999) -> 2
            """);
    }

    private static void rateLimit() {
        new Run("promise 6: 40 rates")
            .rows("heading(-1) -> 0")
            .counting(40, "rate(0, -1, 0, 1, 1, 0, 9999)", 0)
            .rows("""
            rate(0, -1, 0, 1, 1, 0, 9999) -> IllegalStateException
            rate(0, -1, 4, 1, 1, 0, 9999) -> IllegalArgumentException
            rateFor(0, 0, 0) -> 39
            """);
    }

    private static void rateForOneHeading() {
        new Run("promise 7: one heading").rows("""
            heading(-1) -> 0
            rate(0, 3, 0, 1, 0, 10, 20) -> 0
            rateFor(0, 3, 9) -> -1
            rateFor(0, 3, 10) -> 0
            rateFor(0, 3, 20) -> 0
            rateFor(0, 3, 21) -> -1
            rateFor(0, 2, 15) -> -1
            rate(0, -1, 0, 1, 0, 15, 30) -> 1
            rateFor(0, 3, 15) -> 0                 # this land's comes first, though it is older
            rateFor(0, 2, 15) -> 1
            rateFor(0, 3, 21) -> 1
            rate(0, 3, 0, 1, 0, 0, 12) -> 2
            rateFor(0, 3, 12) -> 2                 # the last for this land
            rateFor(0, 3, 13) -> 0
            rate(0, -1, 0, 1, 0, 30, 31) -> 3
            rateFor(0, 2, 30) -> 3
            rateFor(0, 2, 29) -> 1
            rateFor(0, -1, 15) -> IllegalArgumentException
            rateFor(0, 8, 15) -> IllegalArgumentException
            rateFor(-1, 0, 15) -> IllegalArgumentException
            rateFor(1, 0, 15) -> IllegalArgumentException
            rateFor(0, 0, -1) -> IllegalArgumentException
            rateFor(0, 0, 10000) -> IllegalArgumentException
            """);
    }

    private static void rateForHeadingsAbove() {
        new Run("promise 7: those above").rows("""
            heading(-1) -> 0
            heading(0) -> 1
            heading(1) -> 2
            heading(0) -> 3
            rate(0, 5, 0, 1, 0, 0, 100) -> 0
            rateFor(2, 5, 50) -> 0
            rateFor(2, 4, 50) -> -1
            rate(1, -1, 0, 1, 0, 40, 60) -> 1
            rateFor(2, 5, 50) -> 1                 # the nearer one, though for all lands
            rateFor(2, 5, 61) -> 0
            rateFor(3, 5, 50) -> 0
            rateFor(0, 5, 50) -> 0
            rate(2, 4, 0, 1, 0, 0, 9999) -> 2
            rateFor(2, 5, 50) -> 1
            rateFor(2, 4, 50) -> 2
            rateFor(1, 4, 50) -> 1
            heading(2) -> 4
            heading(4) -> 5
            heading(5) -> 6
            rateFor(6, 5, 7) -> 0                  # five are above it
            """);
    }

    private static void quotaArguments() {
        new Run("promises 8 and 9").rows("""
            heading(-1) -> 0
            quota(1, 0, 1, 0, 0, 0) -> IllegalArgumentException
            quota(-1, 0, 1, 0, 0, 0) -> IllegalArgumentException
            quota(0, -1, 1, 0, 0, 0) -> IllegalArgumentException
            quota(0, 8, 1, 0, 0, 0) -> IllegalArgumentException
            quota(0, 0, 0, 0, 0, 0) -> IllegalArgumentException
            quota(0, 0, 100001, 0, 0, 0) -> IllegalArgumentException
            quota(0, 0, 1, -1, 0, 0) -> IllegalArgumentException
            quota(0, 0, 1, 10001, 0, 0) -> IllegalArgumentException
            quota(0, 0, 1, 0, -1, 0) -> IllegalArgumentException
            quota(0, 0, 1, 0, 0, 10000) -> IllegalArgumentException
            quota(0, 0, 1, 0, 1, 0) -> IllegalArgumentException
            quotaLeft(0) -> IllegalArgumentException
            quota(0, 7, 100000, 10000, 9999, 9999) -> 0
            quota(0, 0, 1, 0, 0, 0) -> 1
            quotaLeft(0) -> 100000
            quotaLeft(1) -> 1
            quotaLeft(2) -> IllegalArgumentException
            quotaLeft(-1) -> IllegalArgumentException
            """);
    }

    private static void quotaLimit() {
        new Run("promise 8: 8 quotas")
            .rows("heading(-1) -> 0")
            .counting(8, "quota(0, 0, 5, 1, 0, 9999)", 0)
            .rows("""
            quota(0, 0, 5, 1, 0, 9999) -> IllegalStateException
            quota(0, 0, 0, 1, 0, 9999) -> IllegalArgumentException
            quotaLeft(7) -> 5
            quotaLeft(8) -> IllegalArgumentException
            """);
    }
}
