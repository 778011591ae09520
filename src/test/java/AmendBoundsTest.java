/** Promise 19 at the bounds that it names, and what it refuses. */
public final class AmendBoundsTest {
    /** All goods without fact 7 have a class and a rate: a tenth of the value, and 1 cent for a kilogram. */
    private static final String START = """
            heading(-1) -> 0
            note(0, 1, 7, 1) -> 0
            rate(0, -1, 3, 1000, 1, 0, 9999) -> 0
            declare(5, 5) -> 0
            """;

    public static void main(String[] args) {
        declarationOrLineThatIsNone();
        fieldThatIsNone();
        unitsThatAreNone();
        kilogramsThatAreNone();
        priceThatIsNone();
        notAccepted();
        unitsAreReleased();
        unitsAreExported();
        unitsAreWorked();
        unitsOfAllAreGone();
        cannotBeAssessed();
        stateBeforeElement();
        reducedUnitsThatAreMore();
        reducedUnitsFromOtherLines();
        moreOfItsQuota();
        oldQuotaIsFull();
        sameNumber();
        paidOfFreeLots();
        fullOfLots();
        Run.finish();
    }

    private static void declarationOrLineThatIsNone() {
        new Run("promise 19: a declaration or line that is none")
            .only(0, -1, "amend(?, 0, 0, 1)")
            .rows(START)
            .only(0, -1, "amend(0, ?, 0, 1)")
            .rows("""
            line(0, 0, 0, 5, 5, 500, false) -> 0
            line(0, 0, 0, 5, 5, 500, false) -> 1
            """)
            .only(0, 0, "amend(?, 0, 0, 1)")
            .only(0, 1, "amend(0, ?, 0, 1)")
            .rows("accept(0) -> 110")
            .only(0, 0, "amend(?, 0, 0, 1)")
            .only(0, 1, "amend(0, ?, 0, 1)")
            .rows("""
            amend(0, 0, 2, 600) -> 10
            amend(0, 1, 2, 700) -> 20
            """);
    }

    private static void fieldThatIsNone() {
        new Run("promise 19: field is none").rows(START).rows("""
            line(0, 0, 0, 5, 5, 500, false) -> 0
            accept(0) -> 55
            """)
            .only(0, 2, "amend(0, 0, ?, 1)")
            .rows("""
            amend(0, 0, 0, 1) -> 0
            amend(0, 0, 2, 1) -> -50
            lot(0, 1) -> 1
            lineOf(0, 0, 0) -> 1
            """);
    }

    private static void unitsThatAreNone() {
        new Run("promise 19: units in the bounds of line()").rows(START).rows("""
            line(0, 0, 0, 5, 5, 500, false) -> 0
            accept(0) -> 55
            """)
            .only(1, 1000, "amend(0, 0, 0, ?)")
            .rows("""
            amend(0, 0, 0, 1) -> 0
            lot(0, 1) -> 1
            amend(0, 0, 0, 1000) -> 0
            lot(0, 1) -> 1000
            """);
    }

    private static void kilogramsThatAreNone() {
        new Run("promise 19: kilograms in the bounds of line()").rows(START).rows("""
            line(0, 0, 0, 5, 5, 500, false) -> 0
            accept(0) -> 55
            """)
            .only(0, 1000000, "amend(0, 0, 1, ?)")
            .rows("""
            amend(0, 0, 1, 0) -> -5
            amend(0, 0, 1, 1000000) -> 1000000
            lot(0, 3) -> 1000050
            """);
    }

    private static void priceThatIsNone() {
        new Run("promise 19: price in the bounds of line()").rows(START).rows("""
            line(0, 0, 0, 5, 5, 500, false) -> 0
            accept(0) -> 55
            """)
            .only(0, 100000000, "amend(0, 0, 2, ?)")
            .rows("""
            amend(0, 0, 2, 0) -> -50
            lineOf(0, 0, 0) -> 0
            amend(0, 0, 2, 100000000) -> 10000000
            lineOf(0, 0, 0) -> 100000000
            lot(0, 3) -> 10000005
            """);
    }

    private static void notAccepted() {
        new Run("promise 19: it is not accepted").rows(START).rows("""
            line(0, 0, 0, 5, 5, 500, false) -> 0
            amend(0, 0, 0, 1) -> IllegalStateException
            amend(0, 0, 2, 1) -> IllegalStateException
            """)
            // what follows is named first
            .only(0, 0, "amend(?, 0, 0, 1)")
            .only(0, 0, "amend(0, ?, 0, 1)")
            .only(0, 2, "amend(0, 0, ?, 1)")
            .only(1, 1000, "amend(0, 0, 0, ?)")
            .only(0, 1000000, "amend(0, 0, 1, ?)")
            .only(0, 100000000, "amend(0, 0, 2, ?)")
            .rows("accept(0) -> 55");
    }

    private static void unitsAreReleased() {
        new Run("promise 19: units of one of its lots are gone by releasing").rows(START).rows("""
            line(0, 0, 0, 5, 0, 500, false) -> 0
            line(0, 1, 0, 1000, 0, 500, true) -> 1
            accept(0) -> 100
            amend(0, 0, 2, 600) -> 10
            release(1, 1) -> 0                     # one of a thousand, and nothing paid
            amend(0, 1, 2, 600) -> IllegalStateException
            amend(0, 0, 2, 700) -> IllegalStateException   # of the other line none is gone
            """)
            // what follows is named first
            .only(0, 0, "amend(?, 0, 0, 1)")
            .only(0, 1, "amend(0, ?, 0, 1)")
            .only(0, 2, "amend(0, 0, ?, 1)")
            .only(1, 1000, "amend(0, 0, 0, ?)")
            .only(0, 1000000, "amend(0, 0, 1, ?)")
            .only(0, 100000000, "amend(0, 0, 2, ?)")
            .rows("""
            declare(5, 5) -> 1
            line(1, 1, 0, 5, 0, 500, true) -> 0
            accept(1) -> 50
            amend(1, 0, 2, 600) -> 10              # none of its own
            """);
    }

    private static void unitsAreExported() {
        new Run("promise 19: units are gone by exporting").rows(START).rows("""
            line(0, 0, 0, 5, 0, 500, true) -> 0
            line(0, 0, 0, 5, 0, 500, true) -> 1
            line(0, 0, 0, 5, 0, 500, true) -> 2
            line(0, 1, 0, 5, 0, 500, false) -> 3
            accept(0) -> 200
            amend(0, 3, 2, 600) -> 10
            export(1, 1) -> 12
            amend(0, 3, 2, 700) -> IllegalStateException
            amend(0, 0, 2, 700) -> IllegalStateException
            books(0) -> 60
            """);
    }

    private static void unitsAreWorked() {
        new Run("promise 19: units are gone by working").rows(START).rows("""
            line(0, 0, 0, 5, 0, 500, true) -> 0
            declare(5, 5) -> 1
            line(1, 0, 0, 5, 0, 500, true) -> 0
            accept(0) -> 50
            accept(1) -> 50
            work(0, 5, 1, 1) -> 2
            amend(0, 0, 2, 600) -> IllegalStateException
            amend(1, 0, 2, 600) -> 10              # the fifth was the last of the first lot
            work(0, 1, 1, 1) -> 3
            amend(1, 0, 2, 700) -> IllegalStateException
            """);
    }

    private static void unitsOfAllAreGone() {
        new Run("promise 19: all units are gone").rows(START).rows("""
            line(0, 0, 0, 5, 0, 500, false) -> 0
            accept(0) -> 50
            export(0, 5) -> 50
            amend(0, 0, 0, 6) -> IllegalStateException
            export(0, 1) -> IllegalStateException
            """);
    }

    private static void cannotBeAssessed() {
        new Run("promise 19: it cannot be assessed").rows(START).rows("""
            quota(0, 0, 9, 0, 0, 9999) -> 0
            line(0, 0, 0, 5, 5, 500, false) -> 0
            line(0, 1, 1, 5, 5, 500, false) -> 1
            accept(0) -> 55
            fact(1, 7, 1) -> 0
            amend(0, 0, 0, 3) -> NoSuchElementException    # the other line has no class
            amend(0, 1, 2, 600) -> NoSuchElementException
            """)
            // what follows is named first
            .only(0, 0, "amend(?, 0, 0, 1)")
            .only(0, 1, "amend(0, ?, 0, 1)")
            .only(0, 2, "amend(0, 0, ?, 1)")
            .only(1, 1000, "amend(0, 0, 0, ?)")
            .only(0, 1000000, "amend(0, 0, 1, ?)")
            .only(0, 100000000, "amend(0, 0, 2, ?)")
            .rows("""
            lineOf(0, 0, 1) -> 5
            lineOf(0, 1, 0) -> 500
            quotaLeft(0) -> 4
            fact(1, 7, 0) -> 1
            amend(0, 1, 2, 600) -> 10
            """);
        new Run("promise 19: there is a class, but no rate").rows("""
            heading(-1) -> 0
            heading(-1) -> 1
            note(1, 0, 0, 1) -> 0
            rate(0, -1, 0, 1000, 0, 0, 9999) -> 0
            declare(5, 5) -> 0
            line(0, 0, 0, 5, 5, 500, false) -> 0
            accept(0) -> 50
            fact(0, 0, 1) -> 0
            classify(0) -> 1
            amend(0, 0, 2, 600) -> NoSuchElementException
            rate(1, 0, 0, 2000, 0, 5, 5) -> 1
            amend(0, 0, 2, 600) -> 70
            """);
    }

    private static void stateBeforeElement() {
        new Run("promise 19: IllegalStateException before NoSuchElementException").rows(START).rows("""
            line(0, 0, 0, 5, 5, 500, false) -> 0
            fact(0, 7, 1) -> 0
            amend(0, 0, 0, 3) -> IllegalStateException     # not accepted, and no class
            fact(0, 7, 0) -> 1
            accept(0) -> 55
            export(0, 1) -> 11
            fact(0, 7, 1) -> 0
            amend(0, 0, 0, 3) -> IllegalStateException     # a unit is gone, and no class
            """);
    }

    private static void reducedUnitsThatAreMore() {
        new Run("promise 19: those reduced units that are more than its units").rows(START).rows("""
            quota(0, 0, 10, 0, 0, 9999) -> 0
            line(0, 0, 0, 12, 0, 0, false) -> 0
            accept(0) -> 0
            lineOf(0, 0, 1) -> 10
            amend(0, 0, 0, 11) -> 0
            lineOf(0, 0, 1) -> 10
            amend(0, 0, 0, 10) -> 0                # as many: none goes back
            lineOf(0, 0, 1) -> 10
            quotaLeft(0) -> 0
            amend(0, 0, 0, 9) -> 0                 # one is more
            lineOf(0, 0, 1) -> 9
            quotaLeft(0) -> 1
            amend(0, 0, 0, 1) -> 0
            lineOf(0, 0, 1) -> 1
            quotaLeft(0) -> 9
            """);
    }

    private static void reducedUnitsFromOtherLines() {
        new Run("promise 19: first they go back, then in order each gets more").rows(START).rows("""
            quota(0, 0, 4, 0, 0, 9999) -> 0
            line(0, 0, 0, 1, 0, 0, false) -> 0
            line(0, 0, 0, 3, 0, 0, false) -> 1
            line(0, 0, 0, 3, 0, 0, false) -> 2
            accept(0) -> 0
            amend(0, 0, 0, 2) -> 0
            lineOf(0, 0, 1) -> 1                   # nothing is left, and line 1 keeps its three
            lineOf(0, 1, 1) -> 3
            amend(0, 1, 0, 1) -> 0                 # two go back: one each to lines 0 and 2
            lineOf(0, 0, 1) -> 2
            lineOf(0, 1, 1) -> 1
            lineOf(0, 2, 1) -> 1
            quotaLeft(0) -> 0
            """);
    }

    private static void moreOfItsQuota() {
        new Run("promise 19: more of its quota as far as units are left").rows(START).rows("""
            quota(0, 0, 10, 0, 0, 9999) -> 0
            line(0, 0, 0, 5, 0, 0, false) -> 0
            accept(0) -> 0
            quotaLeft(0) -> 5
            amend(0, 0, 0, 9) -> 0
            lineOf(0, 0, 1) -> 9
            quotaLeft(0) -> 1
            amend(0, 0, 0, 10) -> 0
            lineOf(0, 0, 1) -> 10
            quotaLeft(0) -> 0
            amend(0, 0, 0, 11) -> 0
            lineOf(0, 0, 1) -> 10
            quotaLeft(0) -> 0
            """);
    }

    private static void oldQuotaIsFull() {
        new Run("promise 19: another quota or none: all of the old one goes back").rows("""
            heading(-1) -> 0
            heading(0) -> 1
            note(1, 0, 0, 1) -> 0
            rate(0, -1, 0, 1000, 0, 0, 9999) -> 0
            quota(1, 0, 5, 0, 0, 9999) -> 0
            declare(5, 5) -> 0
            line(0, 0, 0, 5, 0, 500, false) -> 0
            accept(0) -> 50                        # none: its class is 0
            fact(0, 0, 1) -> 0
            amend(0, 0, 2, 500) -> -50             # from none to one
            quotaLeft(0) -> 0
            fact(0, 0, 0) -> 1
            amend(0, 0, 0, 2) -> 50                # fewer units, and back to none
            quotaLeft(0) -> 5
            lineOf(0, 0, 1) -> 0
            """);
    }

    private static void sameNumber() {
        new Run("promise 19: the number that it has").rows(START).rows("""
            line(0, 0, 0, 5, 5, 500, false) -> 0
            accept(0) -> 55
            amend(0, 0, 0, 5) -> 0
            amend(0, 0, 1, 5) -> 0
            amend(0, 0, 2, 500) -> 0
            lot(0, 1) -> 5
            lot(0, 3) -> 55
            books(0) -> 55
            """);
    }

    private static void paidOfFreeLots() {
        new Run("promise 19: of those that are free the difference is paid").rows(START).rows("""
            line(0, 0, 0, 5, 0, 500, false) -> 0
            line(0, 0, 0, 5, 0, 500, true) -> 1
            accept(0) -> 100
            books(0) -> 50
            amend(0, 0, 2, 0) -> -50
            books(0) -> 0                          # all that was paid is paid no more
            books(1) -> 0
            amend(0, 1, 2, 0) -> -50
            books(0) -> 0
            lot(0, 3) -> 0
            lot(1, 3) -> 0
            amend(0, 0, 2, 1000) -> 100
            books(0) -> 100
            amend(0, 1, 2, 1000) -> 100
            books(0) -> 100
            """);
    }

    private static void fullOfLots() {
        new Run("promise 19: it makes no lots, though there are 40").rows(START).rows("""
            line(0, 0, 0, 1000, 0, 0, true) -> 0
            declare(5, 5) -> 1
            line(1, 2, 0, 5, 0, 500, true) -> 0
            accept(0) -> 0
            accept(1) -> 50
            """)
            .counting(38, "work(0, 1, 1, 1)", 2)
            .rows("""
            amend(1, 0, 0, 7) -> 0
            amend(1, 0, 2, 600) -> 10
            lot(1, 1) -> 7
            lot(1, 3) -> 60
            """);
    }
}
