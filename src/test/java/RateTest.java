/** Promises 6 and 7: which rate counts. */
public final class RateTest {
    public static void main(String[] args) {
        rateForOneHeading();
        rateForHeadingsAbove();
        Run.finish();
    }

    private static void rateForOneHeading() {
        new Run("promise 7: one heading").rows("""
            heading(-1) -> 0
            rate(0, 3, 0, 1, 0, 10, 20) -> 0
            rateFor(0, 3, 9) -> -1
            rateFor(0, 3, 10) -> 0
            rateFor(0, 3, 20) -> 0
            rateFor(0, 3, 21) -> -1
            rateFor(0, 2, 15) -> -1
            rate(0, -1, 0, 1, 0, 15, 30) -> 1
            rateFor(0, 3, 15) -> 0                 # this land's comes first, though it is older
            rateFor(0, 2, 15) -> 1
            rateFor(0, 3, 21) -> 1
            rate(0, 3, 0, 1, 0, 0, 12) -> 2
            rateFor(0, 3, 12) -> 2                 # the last for this land
            rateFor(0, 3, 13) -> 0
            rate(0, -1, 0, 1, 0, 30, 31) -> 3
            rateFor(0, 2, 30) -> 3
            rateFor(0, 2, 29) -> 1
            """);
    }

    private static void rateForHeadingsAbove() {
        new Run("promise 7: those above").rows("""
            heading(-1) -> 0
            heading(0) -> 1
            heading(1) -> 2
            heading(0) -> 3
            rate(0, 5, 0, 1, 0, 0, 100) -> 0
            rateFor(2, 5, 50) -> 0
            rateFor(2, 4, 50) -> -1
            rate(1, -1, 0, 1, 0, 40, 60) -> 1
            rateFor(2, 5, 50) -> 1                 # the nearer one, though for all lands
            rateFor(2, 5, 61) -> 0
            rateFor(3, 5, 50) -> 0
            rateFor(0, 5, 50) -> 0
            rate(2, 4, 0, 1, 0, 0, 9999) -> 2
            rateFor(2, 5, 50) -> 1
            rateFor(2, 4, 50) -> 2
            rateFor(1, 4, 50) -> 1
            heading(2) -> 4
            heading(4) -> 5
            heading(5) -> 6
            rateFor(6, 5, 7) -> 0                  # five are above it
            """);
    }
}
