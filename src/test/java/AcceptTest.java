/** Promise 18: accepting declarations. */
public final class AcceptTest {
    public static void main(String[] args) {
        whatAcceptingDoes();
        orderOfAccepting();
        roomForLots();
        Run.finish();
    }

    private static void whatAcceptingDoes() {
        new Run("promise 18").rows("""
            heading(-1) -> 0
            rate(0, -1, 0, 1000, 0, 0, 9999) -> 0
            quota(0, 3, 10, 100, 0, 9999) -> 0
            declare(5, 5) -> 0
            line(0, 4, 3, 6, 0, 600, false) -> 0
            line(0, 4, 3, 6, 0, 600, true) -> 1
            line(0, 5, 2, 1, 0, 110, false) -> 2
            accept(0) -> 41                        # 6, 24 and 11
            quotaLeft(0) -> 0
            books(0) -> 17                         # what is held is not paid
            books(1) -> 0
            lot(0, 0) -> 4
            lot(0, 1) -> 6
            lot(0, 2) -> 0
            lot(0, 3) -> 6
            lot(0, 4) -> 0
            lot(1, 0) -> 4
            lot(1, 1) -> 6
            lot(1, 3) -> 24
            lot(1, 4) -> 1
            lot(2, 0) -> 5
            lot(2, 1) -> 1
            lot(2, 3) -> 11
            lot(2, 4) -> 0
            lot(3, 0) -> IllegalArgumentException
            account(4, 0) -> 6
            account(5, 0) -> 0
            """);
    }

    private static void orderOfAccepting() {
        new Run("promise 18: the order").rows("""
            heading(-1) -> 0
            rate(0, -1, 0, 1000, 0, 0, 9999) -> 0
            declare(10, 100) -> 0
            declare(10, 100) -> 1
            declare(10, 100) -> 2
            declare(10, 99) -> 3
            declare(10, 101) -> 4
            declare(9, 1439) -> 5
            declare(11, 0) -> 6
            declare(9, 1439) -> 7
            line(0, 0, 0, 1, 0, 10, false) -> 0
            line(1, 0, 0, 1, 0, 20, false) -> 0
            line(2, 0, 0, 1, 0, 30, false) -> 0
            line(3, 0, 0, 1, 0, 40, false) -> 0
            line(4, 0, 0, 1, 0, 50, false) -> 0
            line(5, 0, 0, 1, 0, 60, false) -> 0
            line(6, 0, 0, 1, 0, 70, false) -> 0
            accept(5) -> 6
            accept(1) -> 2
            accept(0) -> IllegalStateException             # the same minute, 1 is greater
            accept(3) -> IllegalStateException             # the same day, a later minute
            accept(7) -> IllegalStateException             # a later day, though it cannot be assessed
            accept(2) -> 3
            accept(4) -> 5
            accept(6) -> 7
            accept(4) -> IllegalStateException
            books(0) -> 23
            lot(0, 3) -> 6
            lot(4, 3) -> 7
            """);
        new Run("promise 18: a first declaration that is later").rows("""
            heading(-1) -> 0
            rate(0, -1, 0, 1000, 0, 0, 9999) -> 0
            declare(10, 100) -> 0
            declare(10, 99) -> 1
            declare(9, 101) -> 2
            declare(10, 100) -> 3
            declare(11, 99) -> 4
            line(0, 0, 0, 1, 0, 10, false) -> 0
            line(1, 0, 0, 1, 0, 20, false) -> 0
            line(2, 0, 0, 1, 0, 30, false) -> 0
            line(3, 0, 0, 1, 0, 40, false) -> 0
            line(4, 0, 0, 1, 0, 50, false) -> 0
            accept(0) -> 1
            accept(1) -> IllegalStateException
            accept(2) -> IllegalStateException
            accept(3) -> 4
            accept(4) -> 5
            """);
    }

    private static void roomForLots() {
        Run run = new Run("promise 18: 40 lots").rows("""
            heading(-1) -> 0
            note(0, 1, 0, 1) -> 0
            rate(0, -1, 0, 1000, 0, 0, 9999) -> 0
            quota(0, 7, 5, 0, 0, 9999) -> 0
            """);
        for (int number = 0; number < 12; number++) {
            run.rows("declare(5, " + number + ") -> " + number);
            run.rows("line(" + number + ", 0, 7, 1, 0, 10, true) -> 0");
        }
        for (int number = 0; number < 9; number++) {
            for (int line = 1; line < 4; line++) {
                run.rows("line(" + number + ", 0, 7, 1, 0, 10, true) -> " + line);
            }
        }
        run.rows("""
            accept(0) -> 0
            accept(1) -> 3                                 # one unit is left of the quota
            accept(2) -> 4
            accept(3) -> 4
            accept(4) -> 4
            accept(5) -> 4
            accept(6) -> 4
            accept(7) -> 4
            accept(8) -> 4
            """);
        run.rows("""
            line(9, 0, 7, 1, 0, 10, true) -> 1
            line(9, 0, 7, 1, 0, 10, true) -> 2
            work(0, 1, 1, 1) -> 36
            work(0, 1, 1, 1) -> 37
            accept(9) -> UnsupportedOperationException     # there would be 41
            lot(37, 1) -> 1
            lot(38, 0) -> IllegalArgumentException
            accept(10) -> 1
            accept(9) -> IllegalStateException             # and so it was not accepted
            line(9, 0, 7, 1, 0, 10, true) -> 3
            accept(11) -> 1                                # now there are 40
            work(0, 1, 1, 1) -> UnsupportedOperationException
            work(2, 1, 1, 1) -> IllegalStateException
            account(0, 3) -> 2
            lot(39, 1) -> 1
            lot(40, 0) -> IllegalArgumentException
            """);
    }
}
