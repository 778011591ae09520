/** Promises 14 to 17: what the lines of a declaration come to. */
public final class DeclarationTest {
    public static void main(String[] args) {
        chargeSpreading();
        kindsOfRates();
        rounding();
        greatestNumbers();
        reducedUnits();
        firstQuota();
        assessedNowOrBooked();
        Run.finish();
    }

    private static void chargeSpreading() {
        new Run("promise 17: spreading").rows("""
            declare(5, 5) -> 0
            line(0, 0, 0, 1, 1, 0, false) -> 0
            line(0, 0, 0, 1, 2, 0, false) -> 1
            line(0, 0, 0, 1, 4, 0, false) -> 2
            charge(0, 0, 10) -> done               # 1 3/7, 2 6/7, 5 5/7
            lineOf(0, 0, 0) -> 1
            lineOf(0, 1, 0) -> 3
            lineOf(0, 2, 0) -> 6
            charge(0, 1, 5) -> done                # all prices are 0: 1 2/3 each
            lineOf(0, 0, 0) -> 3
            lineOf(0, 1, 0) -> 5
            lineOf(0, 2, 0) -> 7
            line(0, 0, 0, 1, 0, 100, false) -> 3
            lineOf(0, 0, 0) -> 1                   # a weight of 0 among others gets nothing
            lineOf(0, 1, 0) -> 3
            lineOf(0, 2, 0) -> 6
            lineOf(0, 3, 0) -> 105
            """);
        new Run("promise 17: the greatest remainder, not the greatest weight").rows("""
            declare(5, 5) -> 0
            line(0, 0, 0, 1, 5, 0, false) -> 0
            line(0, 0, 0, 1, 2, 1, false) -> 1
            charge(0, 0, 10) -> done               # 7 1/7, 2 6/7
            lineOf(0, 0, 0) -> 7
            lineOf(0, 1, 0) -> 4
            charge(0, 1, 6) -> done                # a sum of weights of 1
            lineOf(0, 0, 0) -> 7
            lineOf(0, 1, 0) -> 10
            """);
        new Run("promise 17: the same remainders").rows("""
            declare(5, 5) -> 0
            line(0, 0, 0, 1, 9, 50, false) -> 0
            line(0, 0, 0, 1, 9, 50, false) -> 1
            line(0, 0, 0, 1, 9, 50, false) -> 2
            line(0, 0, 0, 1, 9, 50, false) -> 3
            charge(0, 0, 7) -> done                # 1 3/4 each: three cents are left
            lineOf(0, 0, 0) -> 52
            lineOf(0, 1, 0) -> 52
            lineOf(0, 2, 0) -> 52
            lineOf(0, 3, 0) -> 51
            charge(0, 1, 5) -> done                # 1 1/4 each: one is left
            lineOf(0, 0, 0) -> 54
            lineOf(0, 1, 0) -> 53
            lineOf(0, 3, 0) -> 52
            """);
        new Run("promise 17: great weights").rows("""
            declare(5, 5) -> 0
            line(0, 0, 0, 1, 1000000, 100000000, false) -> 0
            line(0, 0, 0, 1, 1000000, 100000000, false) -> 1
            line(0, 0, 0, 1, 1000000, 99999999, false) -> 2
            charge(0, 0, 10000000) -> done
            charge(0, 1, 10000000) -> done
            lineOf(0, 0, 0) -> 106666668           # 3333333 1/3 and a cent; 3333333.34 and a cent
            lineOf(0, 1, 0) -> 106666666
            lineOf(0, 2, 0) -> 106666665
            """);
    }

    private static void kindsOfRates() {
        new Run("promise 17: kinds of rates").rows("""
            heading(-1) -> 0
            rate(0, 0, 0, 500, 20, 0, 9999) -> 0
            rate(0, 1, 1, 500, 20, 0, 9999) -> 1
            rate(0, 2, 2, 500, 20, 0, 9999) -> 2
            rate(0, 3, 3, 500, 20, 0, 9999) -> 3
            declare(5, 5) -> 0
            line(0, 0, 0, 3, 4, 1000, false) -> 0
            line(0, 0, 1, 3, 4, 1000, false) -> 1
            line(0, 0, 2, 3, 4, 1000, false) -> 2
            line(0, 0, 3, 3, 4, 1000, false) -> 3
            lineOf(0, 0, 2) -> 50
            lineOf(0, 1, 2) -> 80
            lineOf(0, 2, 2) -> 80
            lineOf(0, 3, 2) -> 130
            charge(0, 1, 4000) -> done             # each value is 2000 now
            lineOf(0, 0, 2) -> 100
            lineOf(0, 1, 2) -> 80
            lineOf(0, 2, 2) -> 100
            lineOf(0, 3, 2) -> 180
            """);
    }

    private static void rounding() {
        new Run("promise 17: halves go up").rows("""
            heading(-1) -> 0
            rate(0, -1, 0, 1000, 0, 0, 9999) -> 0
            quota(0, 1, 1, 0, 0, 9999) -> 0
            quota(0, 2, 1, 500, 0, 9999) -> 1
            declare(5, 5) -> 0
            line(0, 0, 0, 1, 0, 104, false) -> 0   # 10.4
            line(0, 0, 0, 1, 0, 105, false) -> 1   # 10.5
            line(0, 0, 1, 3, 0, 1000, false) -> 2  # two thirds of 100
            line(0, 0, 2, 3, 0, 1013, false) -> 3  # 67.533.. and 16.883..: 84.41..
            lineOf(0, 0, 2) -> 10
            lineOf(0, 1, 2) -> 11
            lineOf(0, 2, 2) -> 67
            lineOf(0, 3, 2) -> 84
            """);
        new Run("promise 17: only the end is rounded").rows("""
            heading(-1) -> 0
            rate(0, -1, 3, 1000, 1, 0, 9999) -> 0
            quota(0, 1, 1, 2000, 0, 9999) -> 0
            declare(5, 5) -> 0
            line(0, 0, 1, 2, 0, 4, false) -> 0     # 0.2 and 0.4 are 0.6
            lineOf(0, 0, 2) -> 1
            """);
    }

    private static void greatestNumbers() {
        new Run("promise 17: the greatest numbers").rows("""
            heading(-1) -> 0
            rate(0, -1, 3, 10000, 10000, 0, 9999) -> 0
            quota(0, 0, 999, 10000, 0, 9999) -> 0
            declare(5, 5) -> 0
            line(0, 0, 1, 1000, 1000000, 100000000, true) -> 0
            charge(0, 0, 10000000) -> done
            charge(0, 1, 10000000) -> done
            lineOf(0, 0, 0) -> 120000000
            lineOf(0, 0, 2) -> 10120000000
            accept(0) -> 10120000000
            release(0, 999) -> 10109880000
            release(0, 1) -> 10120000
            declare(5, 5) -> 1
            line(1, 0, 0, 1000, 1000000, 100000000, false) -> 0
            lineOf(1, 0, 1) -> 999
            lineOf(1, 0, 2) -> 110000000           # 10100000 and 99900000
            """);
    }

    private static void reducedUnits() {
        new Run("promise 17: reduced units").rows("""
            heading(-1) -> 0
            rate(0, -1, 0, 1000, 0, 0, 9999) -> 0
            quota(0, 0, 10, 100, 0, 9999) -> 0
            declare(5, 5) -> 0
            line(0, 0, 0, 6, 0, 600, false) -> 0
            line(0, 1, 0, 6, 0, 600, false) -> 1
            line(0, 0, 0, 6, 0, 600, false) -> 2
            lineOf(0, 0, 1) -> 6
            lineOf(0, 1, 1) -> 4
            lineOf(0, 2, 1) -> 0
            lineOf(0, 0, 2) -> 6
            lineOf(0, 1, 2) -> 24                  # 2/6 of 60 and 4/6 of 6
            lineOf(0, 2, 2) -> 60
            quotaLeft(0) -> 10                     # asking takes nothing
            """);
    }

    private static void firstQuota() {
        new Run("promise 17: a line's quota").rows("""
            heading(-1) -> 0
            heading(0) -> 1
            heading(-1) -> 2
            note(2, 0, 0, 1) -> 0
            rate(0, -1, 0, 1000, 0, 0, 9999) -> 0
            quota(2, 0, 100, 0, 0, 9999) -> 0      # of another heading
            quota(0, 1, 100, 0, 0, 9999) -> 1      # for another land
            quota(0, 0, 100, 0, 6, 9999) -> 2      # not yet valid
            quota(0, 0, 100, 0, 0, 4) -> 3         # no longer valid
            declare(5, 5) -> 0
            line(0, 0, 0, 7, 0, 700, false) -> 0
            classify(0) -> 1
            lineOf(0, 0, 1) -> 0
            lineOf(0, 0, 2) -> 70
            quota(0, 0, 3, 0, 5, 5) -> 4           # of the heading above
            lineOf(0, 0, 1) -> 3
            lineOf(0, 0, 2) -> 40
            quota(1, 0, 100, 0, 0, 9999) -> 5      # nearer, but not the first
            lineOf(0, 0, 1) -> 3
            """);
        new Run("promise 17: a quota five headings above").rows("""
            heading(-1) -> 0
            heading(0) -> 1
            heading(1) -> 2
            heading(2) -> 3
            heading(3) -> 4
            heading(4) -> 5
            rate(5, -1, 0, 1000, 0, 0, 9999) -> 0
            declare(0, 0) -> 0
            line(0, 0, 0, 7, 0, 700, false) -> 0
            lineOf(0, 0, 2) -> 70
            quota(0, 0, 2, 0, 0, 0) -> 0
            lineOf(0, 0, 1) -> 2
            lineOf(0, 0, 2) -> 50
            """);
        new Run("promise 17: none of eight quotas")
            .rows("heading(-1) -> 0")
            .counting(7, "quota(0, 1, 100, 0, 0, 9999)", 0)
            .rows("""
            rate(0, -1, 0, 1000, 0, 0, 9999) -> 0
            declare(0, 0) -> 0
            line(0, 0, 0, 7, 0, 700, false) -> 0
            lineOf(0, 0, 1) -> 0
            quota(0, 1, 100, 0, 0, 9999) -> 7
            lineOf(0, 0, 1) -> 0
            lineOf(0, 0, 2) -> 70
            """);
    }

    private static void assessedNowOrBooked() {
        new Run("promise 17: now or as booked").rows("""
            heading(-1) -> 0
            rate(0, -1, 0, 1000, 0, 0, 9999) -> 0
            quota(0, 0, 3, 0, 0, 9999) -> 0
            declare(5, 5) -> 0
            declare(5, 6) -> 1
            line(0, 0, 0, 4, 0, 1000, false) -> 0
            line(1, 0, 0, 4, 0, 1000, false) -> 0
            lineOf(0, 0, 2) -> 25
            rate(0, -1, 0, 2000, 0, 0, 9999) -> 1
            lineOf(0, 0, 2) -> 50
            lineOf(1, 0, 1) -> 3
            accept(0) -> 50
            lineOf(0, 0, 1) -> 3
            lineOf(1, 0, 1) -> 0
            rate(0, -1, 0, 3000, 0, 0, 9999) -> 2
            note(0, 0, 0, 1) -> 0
            classify(0) -> -1
            lineOf(0, 0, 0) -> 1000
            lineOf(0, 0, 1) -> 3
            lineOf(0, 0, 2) -> 50
            lineOf(1, 0, 2) -> NoSuchElementException
            """);
    }
}
