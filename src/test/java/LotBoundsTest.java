/** Promises 20 to 25 at the bounds that they name, and the calls that they refuse. */
public final class LotBoundsTest {
    /** Of good 1 held lots of 3 and 4 units and a free one of 6; of good 2 a free one of 5. */
    private static final String START = """
            heading(-1) -> 0
            rate(0, -1, 0, 1000, 0, 0, 9999) -> 0
            declare(5, 5) -> 0
            line(0, 1, 0, 3, 0, 300, true) -> 0
            line(0, 1, 0, 4, 0, 800, true) -> 1
            line(0, 1, 0, 6, 0, 600, false) -> 2
            line(0, 2, 0, 5, 0, 500, false) -> 3
            accept(0) -> 220
            """;

    /** Of good 1 two held lots of 1000 units, and two free ones. */
    private static final String MANY_UNITS = """
            heading(-1) -> 0
            rate(0, -1, 0, 1000, 0, 0, 9999) -> 0
            declare(5, 5) -> 0
            line(0, 1, 0, 1000, 0, 10000, true) -> 0
            line(0, 1, 0, 1000, 0, 10000, true) -> 1
            line(0, 1, 0, 1000, 0, 10000, false) -> 2
            line(0, 1, 0, 1000, 0, 10000, false) -> 3
            accept(0) -> 4000
            """;

    public static void main(String[] args) {
        goodToRelease();
        unitsToRelease();
        fewerToRelease();
        goodToExport();
        unitsToExport();
        fewerToExport();
        goodsToWork();
        sameGoods();
        unitsToWork();
        madeUnits();
        fewerToWork();
        fortyLots();
        stateBeforeRoom();
        noSuchLot();
        whatOfALot();
        goodOfAnAccount();
        whatOfAnAccount();
        lostInWorking();
        amendedHeldLine();
        whatOfTheBooks();
        lessPaidByAmending();
        greatestSums();
        Run.finish();
    }

    private static void goodToRelease() {
        new Run("promise 20: a good that is none").rows(START)
            .only(0, 15, "release(?, 1)")
            .rows("""
            release(0, 1) -> IllegalStateException         # goods, but without lots
            release(15, 1) -> IllegalStateException
            release(1, 1) -> 10
            """);
    }

    private static void unitsToRelease() {
        new Run("promise 20: units is not 1 .. 1000").rows(MANY_UNITS)
            .only(1, 1000, "release(1, ?)")        // though 2000 are left
            .rows("""
            release(1, 1) -> 1
            release(1, 1000) -> 1000
            lot(0, 2) -> 1000
            lot(1, 2) -> 1
            """);
    }

    private static void fewerToRelease() {
        new Run("promise 20: there are fewer left in its held lots").rows(START).rows("""
            release(1, 8) -> IllegalStateException
            release(1, 1000) -> IllegalStateException
            release(2, 1) -> IllegalStateException         # it has a free lot only
            """)
            // what follows is named first
            .only(0, 15, "release(?, 8)")
            .only(1, 1000, "release(2, ?)")
            .rows("""
            release(1, 7) -> 110                   # as many as are left
            release(1, 1) -> IllegalStateException
            books(0) -> 220
            """);
    }

    private static void goodToExport() {
        new Run("promise 21: a good that is none").rows(START)
            .only(0, 15, "export(?, 1)")
            .rows("""
            export(0, 1) -> IllegalStateException          # goods, but without lots
            export(15, 1) -> IllegalStateException
            export(1, 1) -> 10
            """);
    }

    private static void unitsToExport() {
        new Run("promise 21: units is not 1 .. 1000").rows(MANY_UNITS)
            .only(1, 1000, "export(1, ?)")         // though 2000 are left
            .rows("""
            export(1, 1) -> 1
            export(1, 1000) -> 1000
            lot(2, 2) -> 1000
            lot(3, 2) -> 1
            """);
    }

    private static void fewerToExport() {
        new Run("promise 21: there are fewer left in its free lots").rows(START).rows("""
            export(1, 7) -> IllegalStateException
            export(1, 1000) -> IllegalStateException
            release(1, 7) -> 110
            export(1, 7) -> IllegalStateException          # what is released makes no free lot
            """)
            // what follows is named first
            .only(0, 15, "export(?, 7)")
            .only(1, 1000, "export(3, ?)")
            .rows("""
            export(1, 6) -> 60                     # as many as are left
            export(1, 1) -> IllegalStateException
            work(2, 1, 1, 1) -> IllegalStateException
            books(1) -> 60
            """);
    }

    private static void goodsToWork() {
        new Run("promise 22: a good that is none").rows(START)
            .only(0, 15, "work(?, 1, 3, 1)")
            .only(0, 15, "work(1, 1, ?, 1)")
            .rows("""
            work(1, 1, 0, 1) -> 4
            work(1, 1, 15, 1) -> 5
            work(0, 1, 15, 1) -> 6
            work(15, 1, 0, 1) -> 7
            """);
    }

    private static void sameGoods() {
        new Run("promise 22: both goods are the same").rows(START).rows("""
            work(1, 1, 1, 1) -> IllegalArgumentException
            work(0, 1, 0, 1) -> IllegalArgumentException   # though of it none are left
            work(15, 1, 15, 1) -> IllegalArgumentException
            work(1, 1, 2, 1) -> 4
            """);
    }

    private static void unitsToWork() {
        new Run("promise 22: not 1 <= made <= units <= 1000, units").rows(MANY_UNITS)
            .only(1, 1000, "work(1, ?, 2, 1)")
            .rows("""
            work(1, 1001, 2, 1000) -> IllegalArgumentException
            work(1, 1001, 2, 1001) -> IllegalArgumentException
            work(1, 0, 2, 0) -> IllegalArgumentException
            work(1, -1, 2, -1) -> IllegalArgumentException
            work(1, 1, 2, 1) -> 4
            work(1, 1000, 2, 1) -> 5
            lot(5, 1) -> 1
            lot(5, 3) -> 1000
            """);
    }

    private static void madeUnits() {
        new Run("promise 22: not 1 <= made <= units <= 1000, made").rows(MANY_UNITS)
            .only(1, 7, "work(1, 7, 2, ?)")
            .only(1, 1, "work(1, 1, 2, ?)")
            .only(1, 1000, "work(1, 1000, 2, ?)")
            .rows("""
            work(1, 7, 2, 1) -> 4
            work(1, 7, 2, 7) -> 5
            work(1, 1000, 2, 1000) -> 6
            lot(4, 1) -> 1
            lot(5, 1) -> 7
            lot(6, 1) -> 1000
            account(1, 4) -> 6
            """);
    }

    private static void fewerToWork() {
        new Run("promise 22: there are fewer left in its held lots").rows(START).rows("""
            work(1, 8, 2, 1) -> IllegalStateException
            work(1, 1000, 2, 1000) -> IllegalStateException
            work(2, 1, 1, 1) -> IllegalStateException      # it has a free lot only
            """)
            // what follows is named first
            .only(0, 15, "work(?, 8, 3, 1)")
            .only(0, 15, "work(1, 8, ?, 1)")
            .only(1, 1000, "work(2, ?, 1, 1)")
            .only(1, 8, "work(1, 8, 2, ?)")
            .rows("""
            work(1, 8, 1, 1) -> IllegalArgumentException
            work(1, 7, 2, 1) -> 4                  # as many as are left
            lot(4, 3) -> 110
            work(1, 1, 2, 1) -> IllegalStateException
            """);
    }

    private static void fortyLots() {
        new Run("promise 22: there are 40 lots").rows(MANY_UNITS)
            .counting(36, "work(1, 1, 2, 1)", 4)
            .rows("""
            lot(39, 0) -> 2
            work(1, 1, 2, 1) -> UnsupportedOperationException
            work(2, 36, 1, 1) -> UnsupportedOperationException
            """)
            // what follows is named first
            .only(0, 15, "work(?, 1, 3, 1)")
            .only(0, 15, "work(1, 1, ?, 1)")
            .only(1, 1000, "work(1, ?, 2, 1)")
            .only(1, 7, "work(1, 7, 2, ?)")
            .rows("""
            work(1, 1, 1, 1) -> IllegalArgumentException
            release(1, 1) -> 1                     # what makes no lot goes on
            export(1, 1) -> 1
            """);
    }

    private static void stateBeforeRoom() {
        new Run("promise 22: IllegalStateException before UnsupportedOperationException").rows(START).rows("""
            declare(5, 5) -> 1
            line(1, 3, 0, 1000, 0, 1000, true) -> 0
            accept(1) -> 100
            """)
            .counting(35, "work(3, 1, 4, 1)", 5)
            .rows("""
            work(1, 7, 4, 1) -> UnsupportedOperationException
            work(1, 8, 4, 1) -> IllegalStateException
            work(2, 1, 4, 1) -> IllegalStateException
            work(5, 1, 4, 1) -> IllegalStateException
            """);
    }

    private static void noSuchLot() {
        new Run("promise 23: there is no such lot")
            .only(0, -1, "lot(?, 0)")
            .rows(START)
            .only(0, 3, "lot(?, 0)")
            .rows("""
            lot(0, 0) -> 1
            lot(3, 0) -> 2
            work(1, 1, 7, 1) -> 4
            """)
            .only(0, 4, "lot(?, 0)")
            .rows("lot(4, 0) -> 7");
    }

    private static void whatOfALot() {
        new Run("promise 23: what is none of these").rows(START)
            .only(0, 4, "lot(1, ?)")
            .rows("""
            lot(1, 0) -> 1
            lot(1, 1) -> 4
            lot(1, 2) -> 0
            lot(1, 3) -> 80
            lot(1, 4) -> 1
            lot(2, 4) -> 0
            release(1, 7) -> 110
            lot(1, 1) -> 4                         # all are gone; the rest is as it was
            lot(1, 2) -> 4
            lot(1, 3) -> 80
            lot(1, 4) -> 1
            """);
    }

    private static void goodOfAnAccount() {
        new Run("promise 24: a good that is none").rows(START)
            .only(0, 15, "account(?, 0)")
            .only(0, 15, "account(?, 5)")
            .times(6, "account(0, $) -> 0")
            .times(6, "account(15, $) -> 0");
    }

    private static void whatOfAnAccount() {
        new Run("promise 24: what is none of these").rows(START)
            .only(0, 5, "account(1, ?)")
            .rows("""
            account(1, 0) -> 7
            account(1, 5) -> 7
            export(1, 6) -> 60
            account(1, 5) -> 7                     # free units are not told of
            account(2, 0) -> 0
            account(2, 5) -> 0
            release(1, 7) -> 110
            account(1, 0) -> 7
            account(1, 2) -> 7
            account(1, 5) -> 0
            """);
    }

    private static void lostInWorking() {
        new Run("promise 24: lost in working, being more than were made of them").rows(MANY_UNITS).rows("""
            work(1, 5, 2, 5) -> 4
            account(1, 3) -> 5
            account(1, 4) -> 0                     # as many were made
            account(2, 1) -> 5
            account(2, 4) -> 0
            work(1, 5, 2, 4) -> 5
            account(1, 4) -> 1
            work(1, 1000, 2, 1) -> 6
            account(1, 3) -> 1010
            account(1, 4) -> 1000
            account(1, 5) -> 990
            account(2, 1) -> 10
            account(2, 5) -> 10
            account(2, 0) -> 0
            """);
    }

    private static void amendedHeldLine() {
        new Run("promise 24: when a held line is amended").rows(START).rows("""
            amend(0, 0, 0, 1000) -> 0
            account(1, 0) -> 1004
            account(1, 5) -> 1004
            amend(0, 0, 0, 1) -> 0
            account(1, 0) -> 5
            account(1, 5) -> 5
            amend(0, 2, 0, 1000) -> 0
            account(1, 0) -> 5                     # that line is free
            release(1, 6) -> IllegalStateException
            release(1, 5) -> 110
            """);
    }

    private static void whatOfTheBooks() {
        new Run("promise 25: what is neither")
            .only(0, 1, "books(?)")
            .rows("""
            books(0) -> 0
            books(1) -> 0
            """)
            .rows(START)
            .only(0, 1, "books(?)")
            .rows("""
            books(0) -> 110
            books(1) -> 0
            export(2, 5) -> 50
            books(0) -> 110
            books(1) -> 50
            work(1, 7, 2, 7) -> 4
            books(0) -> 110
            books(1) -> 50
            release(2, 7) -> 110
            books(0) -> 220
            books(1) -> 50
            """);
    }

    private static void lessPaidByAmending() {
        new Run("promise 25: when an amendment makes a duty less").rows(START).rows("""
            amend(0, 2, 2, 0) -> -60
            books(0) -> 50
            amend(0, 3, 2, 0) -> -50
            books(0) -> 0
            amend(0, 0, 2, 0) -> -30               # held: it was not paid
            books(0) -> 0
            books(1) -> 0
            """);
    }

    private static void greatestSums() {
        Run run = new Run("promise 25: 40 lots of the greatest price and weight").rows("""
            heading(-1) -> 0
            rate(0, -1, 3, 10000, 10000, 0, 9999) -> 0
            """);
        for (int number = 0; number < 10; number++) {
            run.rows("declare(5, 5) -> " + number)
                .counting(4, "line(" + number + ", 1, 0, 1000, 1000000, 100000000, false)", 0)
                .rows("accept(" + number + ") -> 40400000000");
        }
        run.rows("books(0) -> 404000000000")
            .times(40, "export(1, 1000) -> 10100000000")
            .rows("""
            books(0) -> 404000000000
            books(1) -> 404000000000
            export(1, 1) -> IllegalStateException
            """);
    }
}
