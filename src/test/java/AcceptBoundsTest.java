/** Promise 18 at the bounds that it names, and what it refuses. */
public final class AcceptBoundsTest {
    /** All goods without fact 7 have a class and a rate of a tenth of the value. */
    private static final String START = """
            heading(-1) -> 0
            note(0, 1, 7, 1) -> 0
            rate(0, -1, 0, 1000, 0, 0, 9999) -> 0
            """;

    /** Declaration 0 makes a held lot of 1000 units of good 0, of which more can be worked. */
    private static final String ONE_LOT = START + """
            declare(5, 5) -> 0
            line(0, 0, 0, 1000, 0, 10000, true) -> 0
            accept(0) -> 1000
            """;

    public static void main(String[] args) {
        declarationThatIsNone();
        itIsAccepted();
        laterDay();
        laterMinute();
        greaterNumber();
        laterButNotAccepted();
        cannotBeAssessed();
        fortyLotsWithFourLines();
        moreThanFortyLots();
        orderAndAssessing();
        orderAndRoom();
        assessingAndRoom();
        Run.finish();
    }

    private static void declarationThatIsNone() {
        new Run("promise 18: a declaration that is none").rows(START)
            .only(0, -1, "accept(?)")
            .rows("""
            declare(5, 5) -> 0
            line(0, 0, 0, 1, 0, 100, false) -> 0
            """)
            .only(0, 0, "accept(?)")
            .rows("accept(0) -> 10")
            .only(0, 0, "accept(?)");
    }

    private static void itIsAccepted() {
        new Run("promise 18: it is accepted").rows(START).rows("""
            quota(0, 0, 5, 0, 0, 9999) -> 0
            declare(5, 5) -> 0
            line(0, 0, 0, 1, 0, 100, false) -> 0
            line(0, 0, 1, 1, 0, 100, false) -> 1
            accept(0) -> 10
            accept(0) -> IllegalStateException
            quotaLeft(0) -> 4
            books(0) -> 10
            lot(2, 0) -> IllegalArgumentException
            """);
    }

    private static void laterDay() {
        new Run("promise 18: one is accepted that has a later day").rows(START).rows("""
            declare(6, 0) -> 0
            declare(5, 1439) -> 1
            declare(7, 0) -> 2
            line(0, 0, 0, 1, 0, 100, false) -> 0
            line(1, 0, 0, 1, 0, 200, false) -> 0
            line(2, 0, 0, 1, 0, 300, false) -> 0
            accept(0) -> 10
            accept(1) -> IllegalStateException
            accept(2) -> 30
            accept(1) -> IllegalStateException
            lot(2, 0) -> IllegalArgumentException
            """);
        new Run("promise 18: the first and the last day").rows(START).rows("""
            declare(9999, 0) -> 0
            declare(0, 1439) -> 1
            line(0, 0, 0, 1, 0, 100, false) -> 0
            line(1, 0, 0, 1, 0, 200, false) -> 0
            accept(1) -> 20
            accept(0) -> 10
            """);
    }

    private static void laterMinute() {
        new Run("promise 18: or the same day and a later minute").rows(START).rows("""
            declare(5, 10) -> 0
            declare(5, 9) -> 1
            declare(5, 11) -> 2
            declare(5, 0) -> 3
            line(0, 0, 0, 1, 0, 100, false) -> 0
            line(1, 0, 0, 1, 0, 200, false) -> 0
            line(2, 0, 0, 1, 0, 300, false) -> 0
            line(3, 0, 0, 1, 0, 400, false) -> 0
            accept(3) -> 40
            accept(0) -> 10
            accept(1) -> IllegalStateException
            accept(2) -> 30
            """);
    }

    private static void greaterNumber() {
        new Run("promise 18: or the same minute and a greater number").rows(START).rows("""
            declare(5, 10) -> 0
            declare(5, 10) -> 1
            declare(5, 10) -> 2
            line(0, 0, 0, 1, 0, 100, false) -> 0
            line(1, 0, 0, 1, 0, 200, false) -> 0
            line(2, 0, 0, 1, 0, 300, false) -> 0
            accept(1) -> 20
            accept(0) -> IllegalStateException
            accept(2) -> 30
            accept(0) -> IllegalStateException
            """);
        new Run("promise 18: a greater number of an earlier minute or day").rows(START).rows("""
            declare(5, 10) -> 0
            declare(5, 9) -> 1
            declare(4, 11) -> 2
            line(0, 0, 0, 1, 0, 100, false) -> 0
            line(1, 0, 0, 1, 0, 200, false) -> 0
            line(2, 0, 0, 1, 0, 300, false) -> 0
            accept(2) -> 30
            accept(1) -> 20
            accept(0) -> 10
            """);
    }

    private static void laterButNotAccepted() {
        new Run("promise 18: later ones that are not accepted").rows(START).rows("""
            declare(5, 10) -> 0
            declare(5, 10) -> 1
            declare(5, 11) -> 2
            declare(6, 10) -> 3
            line(0, 0, 0, 1, 0, 100, false) -> 0
            line(1, 0, 0, 1, 0, 200, false) -> 0
            accept(2) -> NoSuchElementException    # refused, and so not accepted
            accept(0) -> 10
            accept(1) -> 20
            """);
    }

    private static void cannotBeAssessed() {
        new Run("promise 18: it cannot be assessed").rows(START).rows("""
            quota(0, 0, 5, 0, 0, 9999) -> 0
            declare(5, 5) -> 0
            accept(0) -> NoSuchElementException            # no lines
            line(0, 0, 0, 1, 0, 100, false) -> 0
            line(0, 1, 0, 1, 0, 100, false) -> 1
            fact(1, 7, 1) -> 0
            accept(0) -> NoSuchElementException            # the last line has no class
            fact(1, 7, 0) -> 1
            fact(0, 7, 1) -> 0
            accept(0) -> NoSuchElementException            # the first has none
            fact(0, 7, 0) -> 1
            accept(0) -> 0
            quotaLeft(0) -> 3
            """);
    }

    private static void fortyLotsWithFourLines() {
        new Run("promise 18: 40 lots").rows(ONE_LOT)
            .counting(35, "work(0, 1, 1, 1)", 1)
            .rows("declare(6, 0) -> 1")
            .counting(4, "line(1, 2, 0, 1, 0, 100, false)", 0)
            .rows("""
            accept(1) -> 40
            lot(39, 0) -> 2
            lot(40, 0) -> IllegalArgumentException
            books(0) -> 40
            """);
    }

    private static void moreThanFortyLots() {
        new Run("promise 18: there would be 41").rows(ONE_LOT)
            .counting(36, "work(0, 1, 1, 1)", 1)
            .rows("""
            quota(0, 0, 5, 0, 0, 9999) -> 0
            declare(6, 0) -> 1
            declare(6, 0) -> 2
            """)
            .counting(4, "line(1, 2, 0, 1, 0, 100, false)", 0)
            .counting(3, "line(2, 2, 0, 1, 0, 100, false)", 0)
            .rows("""
            accept(1) -> UnsupportedOperationException
            quotaLeft(0) -> 5
            books(0) -> 0
            lot(37, 0) -> IllegalArgumentException
            accept(2) -> 0                                 # three are enough
            lot(39, 0) -> 2
            declare(6, 0) -> 3
            line(3, 2, 0, 1, 0, 100, false) -> 0
            accept(3) -> UnsupportedOperationException     # there are 40
            quotaLeft(0) -> 2
            """);
    }

    private static void orderAndAssessing() {
        new Run("promise 18: IllegalStateException before NoSuchElementException").rows(ONE_LOT).rows("""
            declare(5, 4) -> 1
            accept(1) -> IllegalStateException             # earlier, and without lines
            line(1, 0, 0, 1, 0, 100, false) -> 0
            fact(0, 7, 1) -> 0
            accept(1) -> IllegalStateException             # earlier, and without a class
            accept(0) -> IllegalStateException             # accepted, and without a class
            """);
    }

    private static void orderAndRoom() {
        new Run("promise 18: IllegalStateException before UnsupportedOperationException").rows(ONE_LOT)
            .counting(39, "work(0, 1, 1, 1)", 1)
            .rows("""
            declare(5, 4) -> 1
            declare(5, 5) -> 2
            line(1, 0, 0, 1, 0, 100, false) -> 0
            line(2, 0, 0, 1, 0, 100, false) -> 0
            accept(0) -> IllegalStateException
            accept(1) -> IllegalStateException
            accept(2) -> UnsupportedOperationException
            """)
            .only(0, 2, "accept(?)");
    }

    private static void assessingAndRoom() {
        new Run("promise 18: NoSuchElementException before UnsupportedOperationException").rows(ONE_LOT)
            .counting(39, "work(0, 1, 1, 1)", 1)
            .rows("""
            declare(6, 0) -> 1
            accept(1) -> NoSuchElementException            # no lines
            line(1, 2, 0, 1, 0, 100, false) -> 0
            accept(1) -> UnsupportedOperationException
            fact(2, 7, 1) -> 0
            accept(1) -> NoSuchElementException            # no class
            """);
    }
}
