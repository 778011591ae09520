/** Promise 19: amending accepted declarations. */
public final class AmendTest {
    public static void main(String[] args) {
        fieldsAndDifferences();
        classesAndRatesAsTheyAreNow();
        surplusGoesBackFirst();
        othersKeepWhatTheyHave();
        anotherQuotaNow();
        oldQuotaGoesBackInTurn();
        chargesAreSpreadAnew();
        heldAccounts();
        besideOtherDeclarations();
        Run.finish();
    }

    private static void fieldsAndDifferences() {
        new Run("promise 19: fields").rows("""
            heading(-1) -> 0
            rate(0, -1, 3, 1000, 7, 0, 9999) -> 0
            quota(0, 0, 4, 0, 0, 9999) -> 0
            declare(5, 5) -> 0
            line(0, 0, 1, 5, 10, 100, false) -> 0
            line(0, 0, 1, 5, 10, 200, true) -> 1
            accept(0) -> 170
            books(0) -> 80
            amend(0, 0, 1, 20) -> 70               # kilograms
            books(0) -> 150
            lot(0, 3) -> 150
            lineOf(0, 0, 2) -> 150
            amend(0, 0, 2, 50) -> -5               # price
            books(0) -> 145
            lineOf(0, 0, 0) -> 50
            amend(0, 1, 2, 0) -> -20
            books(0) -> 145                        # that lot is held
            lot(1, 3) -> 70
            amend(0, 1, 0, 9) -> 0                 # units
            lot(1, 1) -> 9
            lot(0, 1) -> 5
            lot(1, 2) -> 0
            books(1) -> 0
            quotaLeft(0) -> 4
            """);
    }

    private static void classesAndRatesAsTheyAreNow() {
        new Run("promise 19: classes and rates now").rows("""
            heading(-1) -> 0
            heading(0) -> 1
            note(1, 0, 6, 1) -> 0
            rate(0, -1, 0, 1000, 0, 0, 9999) -> 0
            rate(1, -1, 0, 5000, 0, 0, 9999) -> 1
            declare(5, 5) -> 0
            line(0, 0, 0, 5, 0, 100, false) -> 0
            line(0, 1, 0, 5, 0, 100, true) -> 1
            accept(0) -> 20
            fact(1, 6, 1) -> 0
            lot(1, 3) -> 10
            amend(0, 0, 1, 3) -> 40                # the other line has another class now
            lot(0, 3) -> 10
            lot(1, 3) -> 50
            books(0) -> 10
            rate(0, 0, 0, 2000, 0, 5, 5) -> 2
            amend(0, 1, 1, 3) -> 10                # and this one another rate
            lot(0, 3) -> 20
            books(0) -> 20
            """);
    }

    private static void surplusGoesBackFirst() {
        new Run("promise 19: what is more than the units").rows("""
            heading(-1) -> 0
            rate(0, -1, 0, 1000, 0, 0, 9999) -> 0
            quota(0, 0, 10, 0, 0, 9999) -> 0
            declare(5, 5) -> 0
            line(0, 0, 0, 4, 0, 400, false) -> 0
            line(0, 0, 0, 4, 0, 400, false) -> 1
            line(0, 0, 0, 4, 0, 400, false) -> 2
            accept(0) -> 20
            lineOf(0, 2, 1) -> 2
            amend(0, 0, 0, 9) -> 22                # 5/9 of 40 are not reduced: nothing is left
            lineOf(0, 0, 1) -> 4
            lineOf(0, 1, 1) -> 4
            lineOf(0, 2, 1) -> 2
            amend(0, 2, 0, 1) -> -24               # one goes back, and to the first line
            lineOf(0, 0, 1) -> 5
            lineOf(0, 1, 1) -> 4
            lineOf(0, 2, 1) -> 1
            lineOf(0, 0, 2) -> 18
            amend(0, 1, 0, 1) -> -14               # 1/9 of 40 rounded is 4
            lineOf(0, 0, 1) -> 8
            quotaLeft(0) -> 0
            amend(0, 0, 0, 1) -> -4
            quotaLeft(0) -> 7
            """);
    }

    private static void othersKeepWhatTheyHave() {
        new Run("promise 19: each keeps what it has").rows("""
            heading(-1) -> 0
            rate(0, -1, 0, 1000, 0, 0, 9999) -> 0
            quota(0, 0, 10, 0, 0, 9999) -> 0
            declare(5, 5) -> 0
            declare(6, 5) -> 1
            line(0, 0, 0, 2, 0, 400, false) -> 0
            line(0, 0, 0, 6, 0, 400, false) -> 1
            line(1, 0, 0, 5, 0, 400, false) -> 0
            accept(0) -> 0
            accept(1) -> 24
            quotaLeft(0) -> 0
            amend(0, 0, 0, 8) -> 30
            lineOf(0, 0, 1) -> 2                   # it gets none of what line 1 has
            lineOf(0, 1, 1) -> 6
            amend(1, 0, 0, 1) -> -24
            quotaLeft(0) -> 1
            lineOf(0, 0, 1) -> 2                   # as booked
            amend(0, 0, 0, 8) -> -5                # the same number: the rest comes to it now
            lineOf(0, 0, 1) -> 3
            quotaLeft(0) -> 0
            """);
    }

    private static void anotherQuotaNow() {
        new Run("promise 19: another quota, or none").rows("""
            heading(-1) -> 0
            heading(0) -> 1
            heading(0) -> 2
            note(1, 0, 5, 1) -> 0
            note(2, 0, 6, 1) -> 1
            rate(0, -1, 0, 1000, 0, 0, 9999) -> 0
            quota(1, 0, 5, 100, 0, 9999) -> 0
            quota(2, 0, 9, 500, 0, 9999) -> 1
            fact(0, 5, 1) -> 0
            declare(5, 5) -> 0
            line(0, 0, 0, 8, 0, 800, false) -> 0
            accept(0) -> 35                        # 3/8 of 80 and 5/8 of 8
            quotaLeft(0) -> 0
            fact(0, 6, 1) -> 0
            amend(0, 0, 0, 10) -> 9                # 1/10 of 80 and 9/10 of 40
            quotaLeft(0) -> 5
            quotaLeft(1) -> 0
            lineOf(0, 0, 1) -> 9
            fact(0, 5, 0) -> 1
            fact(0, 6, 0) -> 1
            amend(0, 0, 0, 10) -> 36
            quotaLeft(0) -> 5
            quotaLeft(1) -> 9
            lineOf(0, 0, 1) -> 0
            fact(0, 5, 1) -> 0
            amend(0, 0, 0, 5) -> -72
            quotaLeft(0) -> 0
            lineOf(0, 0, 1) -> 5
            """);
    }

    /** The words are read so: what a line had of an old quota goes back when its own turn comes. */
    private static void oldQuotaGoesBackInTurn() {
        new Run("promise 19: an old quota in turn").rows("""
            heading(-1) -> 0
            heading(0) -> 1
            note(1, 0, 5, 1) -> 0
            rate(0, -1, 0, 1000, 0, 0, 9999) -> 0
            quota(1, 0, 5, 0, 0, 9999) -> 0
            fact(0, 5, 1) -> 0
            fact(1, 5, 1) -> 0
            declare(5, 5) -> 0
            line(0, 0, 0, 3, 0, 300, false) -> 0
            line(0, 1, 0, 2, 0, 300, false) -> 1
            line(0, 0, 0, 4, 0, 400, false) -> 2
            accept(0) -> 40
            fact(1, 5, 0) -> 1
            amend(0, 0, 0, 5) -> 22
            lineOf(0, 0, 1) -> 3                   # before the turn of line 1
            lineOf(0, 1, 1) -> 0
            lineOf(0, 2, 1) -> 2                   # behind it
            quotaLeft(0) -> 0
            """);
    }

    private static void chargesAreSpreadAnew() {
        new Run("promise 19: charges").rows("""
            heading(-1) -> 0
            rate(0, -1, 0, 10000, 0, 0, 9999) -> 0
            declare(5, 5) -> 0
            line(0, 0, 0, 1, 1, 100, false) -> 0
            line(0, 0, 0, 1, 1, 100, true) -> 1
            charge(0, 0, 90) -> done
            accept(0) -> 290
            books(0) -> 145
            amend(0, 1, 1, 2) -> 0
            lineOf(0, 0, 0) -> 130
            lineOf(0, 1, 0) -> 160
            lot(0, 3) -> 130
            lot(1, 3) -> 160
            books(0) -> 130
            """);
    }

    private static void heldAccounts() {
        new Run("promise 19: accounts of held units").rows("""
            heading(-1) -> 0
            rate(0, -1, 0, 1000, 0, 0, 9999) -> 0
            declare(5, 5) -> 0
            line(0, 3, 0, 9, 0, 900, true) -> 0
            line(0, 3, 0, 4, 0, 400, false) -> 1
            accept(0) -> 130
            account(3, 0) -> 9
            amend(0, 0, 0, 6) -> 0
            account(3, 0) -> 6
            account(3, 5) -> 6
            amend(0, 1, 0, 20) -> 0
            account(3, 0) -> 6
            release(3, 6) -> 90
            release(3, 1) -> IllegalStateException
            export(3, 20) -> 40
            """);
    }

    private static void besideOtherDeclarations() {
        new Run("promise 19: four lines, and other declarations").rows("""
            heading(-1) -> 0
            rate(0, -1, 0, 1000, 0, 0, 9999) -> 0
            quota(0, 0, 10, 0, 0, 9999) -> 0
            declare(5, 5) -> 0
            declare(5, 6) -> 1
            declare(5, 7) -> 2
            line(0, 0, 0, 1, 0, 100, false) -> 0
            line(0, 0, 1, 1, 0, 100, false) -> 1
            line(0, 0, 1, 1, 0, 100, false) -> 2
            line(0, 0, 1, 1, 0, 100, false) -> 3
            line(1, 0, 1, 2, 0, 500, false) -> 0
            line(2, 0, 0, 8, 0, 800, false) -> 0
            accept(0) -> 30
            accept(1) -> 50
            amend(0, 1, 2, 200) -> 10
            lot(4, 1) -> 2
            lot(4, 3) -> 50
            books(0) -> 90
            quotaLeft(0) -> 9
            lineOf(2, 0, 1) -> 8                   # asking about one that is not accepted
            amend(0, 0, 0, 3) -> 0
            lineOf(0, 0, 1) -> 3
            quotaLeft(0) -> 7
            lineOf(2, 0, 1) -> 7
            lineOf(2, 0, 2) -> 10
            amend(1, 0, 2, 0) -> -50
            lot(4, 3) -> 0
            lot(3, 3) -> 10
            quotaLeft(0) -> 7
            """);
        new Run("promise 19: lots of declarations that are accepted in another order").rows("""
            heading(-1) -> 0
            rate(0, -1, 0, 1000, 0, 0, 9999) -> 0
            declare(6, 5) -> 0
            declare(5, 5) -> 1
            line(0, 0, 1, 3, 0, 100, false) -> 0
            line(0, 0, 1, 3, 0, 100, false) -> 1
            line(0, 0, 1, 3, 0, 100, false) -> 2
            line(0, 0, 1, 3, 0, 100, false) -> 3
            line(1, 0, 1, 2, 0, 500, false) -> 0
            accept(1) -> 50
            accept(0) -> 40
            amend(1, 0, 2, 600) -> 10
            lot(0, 3) -> 60
            lot(1, 1) -> 3
            lot(1, 3) -> 10
            books(0) -> 100
            amend(0, 3, 0, 4) -> 0
            lot(0, 1) -> 2
            lot(4, 1) -> 4
            """);
    }
}
