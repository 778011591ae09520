/** Promises 20 to 25: releasing, exporting, working, lots, accounts and books. */
public final class LotTest {
    /** Good 1: held lots of 3 and 4 units with duties 10 and 30, a free one of 7 units with 50. */
    private static final String START = """
            heading(-1) -> 0
            rate(0, -1, 0, 1000, 0, 0, 9999) -> 0
            declare(5, 5) -> 0
            line(0, 1, 0, 3, 0, 100, true) -> 0
            line(0, 1, 0, 7, 0, 500, false) -> 1
            line(0, 1, 0, 4, 0, 300, true) -> 2
            line(0, 2, 0, 5, 0, 200, false) -> 3
            accept(0) -> 110
            books(0) -> 70
            """;

    public static void main(String[] args) {
        releasing();
        exporting();
        working();
        workedLotsInOrder();
        roomForWorkedLots();
        lots();
        accounts();
        books();
        Run.finish();
    }

    private static void releasing() {
        new Run("promise 20").rows(START).rows("""
            release(1, 8) -> IllegalStateException
            release(2, 1) -> IllegalStateException         # has a free lot only
            release(1, 1000) -> IllegalStateException
            lot(0, 2) -> 0
            books(0) -> 70
            release(1, 1) -> 3                     # 10/3
            release(1, 1) -> 3                     # 20/3 less 3
            books(0) -> 76
            lot(0, 2) -> 2
            release(1, 3) -> 19                    # 4 of the first, 15 of the other
            lot(0, 2) -> 3
            lot(1, 2) -> 0
            lot(2, 2) -> 2
            books(0) -> 95
            release(1, 3) -> IllegalStateException
            release(1, 2) -> 15
            release(1, 1) -> IllegalStateException
            books(0) -> 110
            books(1) -> 0
            lot(2, 3) -> 30
            """);
    }

    private static void exporting() {
        new Run("promise 21").rows(START).rows("""
            export(1, 8) -> IllegalStateException
            export(3, 1) -> IllegalStateException
            books(1) -> 0
            export(1, 2) -> 14                     # 100/7
            export(1, 1) -> 7                      # 150/7 less 14
            books(1) -> 21
            books(0) -> 70                         # what was paid stays
            lot(1, 2) -> 3
            lot(0, 2) -> 0
            export(1, 4) -> 29
            export(1, 1) -> IllegalStateException
            books(1) -> 50
            export(2, 5) -> 20
            books(1) -> 70
            declare(6, 6) -> 1
            line(1, 2, 0, 2, 0, 90, false) -> 0
            line(1, 2, 0, 2, 0, 110, false) -> 1
            accept(1) -> 20
            export(2, 3) -> 14                     # 9 and half of 11, rounded down
            lot(4, 2) -> 2
            lot(5, 2) -> 1
            account(1, 5) -> 7
            """);
    }

    private static void working() {
        new Run("promise 22").rows(START).rows("""
            work(1, 8, 2, 8) -> IllegalStateException
            work(1, 1000, 2, 1000) -> IllegalStateException
            work(2, 1, 1, 1) -> IllegalStateException
            account(1, 3) -> 0
            work(1, 5, 2, 3) -> 4                  # 10 of the first, 15 of the other
            lot(4, 0) -> 2
            lot(4, 1) -> 3
            lot(4, 2) -> 0
            lot(4, 3) -> 25
            lot(4, 4) -> 1
            lot(0, 2) -> 3
            lot(2, 2) -> 2
            books(0) -> 70                         # nothing is paid by working
            work(1, 2, 3, 2) -> 5
            lot(5, 3) -> 15
            work(1, 1, 3, 1) -> IllegalStateException
            release(2, 2) -> 16                    # 50/3
            release(2, 1) -> 9
            books(0) -> 95
            """);
    }

    private static void workedLotsInOrder() {
        new Run("promise 22: worked lots are held lots").rows("""
            heading(-1) -> 0
            rate(0, -1, 0, 1000, 0, 0, 9999) -> 0
            declare(5, 5) -> 0
            declare(6, 5) -> 1
            line(0, 0, 0, 10, 0, 1000, true) -> 0
            line(1, 1, 0, 10, 0, 5000, true) -> 0
            accept(0) -> 100
            work(0, 4, 1, 2) -> 1
            accept(1) -> 500
            lot(2, 3) -> 500
            work(1, 3, 2, 1) -> 3                  # two units of lot 1, one of lot 2
            lot(3, 3) -> 90
            work(2, 1, 0, 1) -> 4                  # and back to good 0
            lot(4, 3) -> 90
            release(0, 7) -> 150                   # six units of lot 0, one of lot 4
            amend(1, 0, 0, 20) -> IllegalStateException
            books(0) -> 150
            """);
    }

    private static void roomForWorkedLots() {
        new Run("promise 22: 40 lots").rows("""
            heading(-1) -> 0
            rate(0, -1, 0, 1000, 0, 0, 9999) -> 0
            declare(5, 5) -> 0
            line(0, 0, 0, 1000, 0, 10000, true) -> 0
            accept(0) -> 1000
            """)
            .counting(39, "work(0, 2, 1, 1)", 1)
            .rows("""
            work(0, 2, 1, 1) -> UnsupportedOperationException
            work(0, 1000, 1, 1) -> IllegalStateException
            account(0, 3) -> 78
            account(0, 5) -> 922
            account(1, 1) -> 39
            lot(39, 3) -> 2
            release(0, 922) -> 922
            release(1, 39) -> 78
            """);
    }

    private static void lots() {
        new Run("promise 23").rows(START).rows("""
            lot(1, 0) -> 1
            lot(1, 1) -> 7
            lot(1, 2) -> 0
            lot(1, 3) -> 50
            lot(1, 4) -> 0
            export(1, 6) -> 42
            lot(1, 1) -> 7                         # all its units, not those left
            lot(1, 2) -> 6
            lot(1, 3) -> 50
            lot(2, 1) -> 4
            lot(2, 4) -> 1
            lot(3, 0) -> 2
            """);
    }

    private static void accounts() {
        new Run("promise 24").rows(START).rows("""
            account(1, 0) -> 7                     # of the free units nothing is told
            account(2, 0) -> 0
            release(1, 2) -> 6
            export(1, 3) -> 21
            work(1, 4, 2, 1) -> 4
            work(2, 1, 3, 1) -> 5
            account(1, 0) -> 7
            account(1, 1) -> 0
            account(1, 2) -> 2
            account(1, 3) -> 4
            account(1, 4) -> 3
            account(1, 5) -> 1
            account(2, 0) -> 0
            account(2, 1) -> 1
            account(2, 2) -> 0
            account(2, 3) -> 1
            account(2, 4) -> 0
            account(2, 5) -> 0
            account(3, 1) -> 1
            account(3, 5) -> 1
            release(3, 1) -> 26
            account(3, 1) -> 1
            account(3, 2) -> 1
            account(3, 5) -> 0
            """);
    }

    private static void books() {
        new Run("promise 25").rows("""
            books(0) -> 0
            books(1) -> 0
            """).rows(START).rows("""
            amend(0, 1, 2, 100) -> -40
            books(0) -> 30                         # so much less was paid
            books(1) -> 0
            amend(0, 0, 2, 0) -> -10
            books(0) -> 30
            release(1, 7) -> 30
            books(0) -> 60
            export(2, 1) -> 4
            books(0) -> 60
            books(1) -> 4
            """);
    }
}
