/** Promises 14 to 17 at the bounds that they name, and the calls that they refuse. */
public final class DeclarationBoundsTest {
    /** A heading, a rate of a tenth of the value for all, and a declaration without lines. */
    private static final String START = """
            heading(-1) -> 0
            rate(0, -1, 0, 1000, 0, 0, 9999) -> 0
            declare(5, 5) -> 0
            """;

    public static void main(String[] args) {
        dayOfADeclaration();
        minuteOfADeclaration();
        thereAre12Declarations();
        declarationOfALine();
        goodAndLandOfALine();
        unitsOfALine();
        kilogramsOfALine();
        priceOfALine();
        lineOfAnAcceptedOne();
        itHas4Lines();
        declarationOfACharge();
        kindOfACharge();
        centsOfACharge();
        chargeOfAnAcceptedOne();
        chargesOfEachDeclaration();
        lineThatIsNone();
        whatIsNone();
        valueWithoutAssessing();
        notAcceptedAndNotToBeAssessed();
        acceptedAndNoMoreToBeAssessed();
        asItWouldBeNow();
        Run.finish();
    }

    private static void dayOfADeclaration() {
        new Run("promise 14: a day that is none")
            .only(0, 9999, "declare(?, 0)")
            .rows("""
            declare(0, 0) -> 0
            declare(9999, 0) -> 1
            """);
    }

    private static void minuteOfADeclaration() {
        new Run("promise 14: minute is not 0 .. 1439")
            .only(0, 1439, "declare(0, ?)")
            .rows(START.replace("declare(5, 5) -> 0", """
            declare(0, 0) -> 0
            declare(0, 1439) -> 1
            """))
            .rows("""
            line(0, 0, 0, 1, 0, 100, false) -> 0
            line(1, 0, 0, 1, 0, 100, false) -> 0
            accept(1) -> 10
            accept(0) -> IllegalStateException     # its minute is earlier
            """);
    }

    private static void thereAre12Declarations() {
        new Run("promise 14: there are 12")
            .counting(12, "declare(5, 5)", 0)
            .rows("""
            declare(5, 5) -> IllegalStateException
            line(11, 0, 0, 1, 0, 8, true) -> 0
            line(12, 0, 0, 1, 0, 8, true) -> IllegalArgumentException
            """)
            // what follows is named first
            .only(0, 9999, "declare(?, 5)")
            .only(0, 1439, "declare(5, ?)");
    }

    private static void declarationOfALine() {
        new Run("promise 15: a declaration that is none")
            .only(0, -1, "line(?, 0, 0, 1, 0, 0, true)")
            .rows("declare(5, 5) -> 0\ndeclare(5, 5) -> 1")
            .only(0, 1, "line(?, 0, 0, 1, 0, 0, true)")
            .rows("""
            line(0, 0, 0, 1, 0, 7, true) -> 0
            line(1, 0, 0, 1, 0, 8, true) -> 0
            lineOf(0, 0, 0) -> 7
            lineOf(1, 0, 0) -> 8
            """);
    }

    private static void goodAndLandOfALine() {
        new Run("promise 15: a good or land that is none").rows(START)
            .only(0, 15, "line(0, ?, 0, 1, 0, 100, true)")
            .only(0, 7, "line(0, 0, ?, 1, 0, 100, true)")
            .rows("""
            line(0, 0, 0, 1, 0, 100, true) -> 0
            line(0, 15, 7, 1, 0, 100, true) -> 1
            accept(0) -> 20
            lot(0, 0) -> 0
            lot(1, 0) -> 15
            """);
    }

    private static void unitsOfALine() {
        new Run("promise 15: units is not 1 .. 1000").rows(START)
            .only(1, 1000, "line(0, 0, 0, ?, 0, 0, true)")
            .rows("""
            line(0, 0, 0, 1, 0, 0, true) -> 0
            line(0, 0, 0, 1000, 0, 0, true) -> 1
            accept(0) -> 0
            lot(0, 1) -> 1
            lot(1, 1) -> 1000
            """);
    }

    private static void kilogramsOfALine() {
        new Run("promise 15: kilograms not 0 .. 1000000").rows("""
            heading(-1) -> 0
            rate(0, -1, 1, 0, 1, 0, 9999) -> 0
            declare(5, 5) -> 0
            """)
            .only(0, 1000000, "line(0, 0, 0, 1, ?, 0, true)")
            .rows("""
            line(0, 0, 0, 1, 0, 0, true) -> 0
            line(0, 0, 0, 1, 1000000, 0, true) -> 1
            lineOf(0, 0, 2) -> 0
            lineOf(0, 1, 2) -> 1000000
            """);
    }

    private static void priceOfALine() {
        new Run("promise 15: price not 0 .. 100000000").rows(START)
            .only(0, 100000000, "line(0, 0, 0, 1, 0, ?, true)")
            .rows("""
            line(0, 0, 0, 1, 0, 0, true) -> 0
            line(0, 0, 0, 1, 0, 100000000, true) -> 1
            lineOf(0, 0, 0) -> 0
            lineOf(0, 1, 0) -> 100000000
            """);
    }

    private static void lineOfAnAcceptedOne() {
        new Run("promise 15: it is accepted").rows(START).rows("""
            line(0, 0, 0, 1, 0, 100, true) -> 0
            accept(0) -> 10
            line(0, 0, 0, 1, 0, 100, true) -> IllegalStateException
            """)
            // what follows is named first
            .only(0, 0, "line(?, 0, 0, 1, 0, 100, true)")
            .only(0, 15, "line(0, ?, 0, 1, 0, 100, true)")
            .only(0, 7, "line(0, 0, ?, 1, 0, 100, true)")
            .only(1, 1000, "line(0, 0, 0, ?, 0, 100, true)")
            .only(0, 1000000, "line(0, 0, 0, 1, ?, 100, true)")
            .only(0, 100000000, "line(0, 0, 0, 1, 0, ?, true)")
            .only(0, 0, "lineOf(0, ?, 0)");
    }

    private static void itHas4Lines() {
        new Run("promise 15: it has 4").rows(START)
            .counting(4, "line(0, 0, 0, 1, 0, 100, true)", 0)
            .rows("line(0, 0, 0, 1, 0, 100, true) -> IllegalStateException")
            // what follows is named first
            .only(0, 0, "line(?, 0, 0, 1, 0, 100, true)")
            .only(0, 15, "line(0, ?, 0, 1, 0, 100, true)")
            .only(0, 7, "line(0, 0, ?, 1, 0, 100, true)")
            .only(1, 1000, "line(0, 0, 0, ?, 0, 100, true)")
            .only(0, 1000000, "line(0, 0, 0, 1, ?, 100, true)")
            .only(0, 100000000, "line(0, 0, 0, 1, 0, ?, true)")
            .rows("""
            accept(0) -> 40
            line(0, 0, 0, 1, 0, 100, true) -> IllegalStateException
            declare(5, 5) -> 1
            line(1, 0, 0, 1, 0, 100, true) -> 0    # another has room
            """);
    }

    private static void declarationOfACharge() {
        new Run("promise 16: a declaration that is none")
            .only(0, -1, "charge(?, 0, 1)")
            .rows("declare(5, 5) -> 0\ndeclare(5, 5) -> 1")
            .only(0, 1, "charge(?, 0, 1)")
            .rows("""
            charge(0, 0, 1) -> done
            charge(1, 0, 1) -> done
            """);
    }

    private static void kindOfACharge() {
        new Run("promise 16: by is neither").rows(START).rows("""
            line(0, 0, 0, 1, 1, 0, true) -> 0
            line(0, 0, 0, 1, 0, 1, true) -> 1
            """)
            .only(0, 1, "charge(0, ?, 10)")
            .rows("""
            charge(0, 0, 10) -> done
            lineOf(0, 0, 0) -> 10
            lineOf(0, 1, 0) -> 1
            charge(0, 1, 10) -> done
            lineOf(0, 0, 0) -> 10
            lineOf(0, 1, 0) -> 11
            """);
    }

    private static void centsOfACharge() {
        new Run("promise 16: cents not 0 .. 10000000").rows(START).rows("""
            line(0, 0, 0, 1, 1, 5, true) -> 0
            charge(0, 0, 3) -> done
            """)
            .only(0, 10000000, "charge(0, 0, ?)")
            .only(0, 10000000, "charge(0, 1, ?)")
            .rows("""
            lineOf(0, 0, 0) -> 8
            charge(0, 0, 10000000) -> done
            lineOf(0, 0, 0) -> 10000005
            charge(0, 1, 10000000) -> done
            lineOf(0, 0, 0) -> 20000005
            charge(0, 0, 0) -> done
            lineOf(0, 0, 0) -> 10000005
            charge(0, 1, 0) -> done
            lineOf(0, 0, 0) -> 5
            """);
    }

    private static void chargeOfAnAcceptedOne() {
        new Run("promise 16: it is accepted").rows(START).rows("""
            line(0, 0, 0, 1, 1, 100, true) -> 0
            accept(0) -> 10
            charge(0, 0, 100) -> IllegalStateException
            charge(0, 1, 100) -> IllegalStateException
            charge(0, 0, 0) -> IllegalStateException
            lineOf(0, 0, 0) -> 100
            """)
            // what follows is named first
            .only(0, 0, "charge(?, 0, 100)")
            .only(0, 1, "charge(0, ?, 100)")
            .only(0, 10000000, "charge(0, 0, ?)")
            .rows("amend(0, 0, 1, 2) -> 0          # no charge came to it");
    }

    private static void chargesOfEachDeclaration() {
        new Run("promise 16: a charge of a declaration, and of no other").rows("""
            declare(5, 5) -> 0
            declare(5, 5) -> 1
            line(0, 0, 0, 1, 1, 5, true) -> 0
            line(1, 0, 0, 1, 1, 5, true) -> 0
            charge(0, 0, 3) -> done
            charge(1, 1, 4) -> done
            lineOf(0, 0, 0) -> 8
            lineOf(1, 0, 0) -> 9
            """);
    }

    private static void lineThatIsNone() {
        new Run("promise 17: a declaration or line that is none")
            .only(0, -1, "lineOf(?, 0, 0)")
            .rows(START)
            .only(0, -1, "lineOf(0, ?, 0)")        // without lines
            .only(0, -1, "lineOf(0, ?, 1)")
            .rows("line(0, 0, 0, 1, 0, 100, true) -> 0")
            .only(0, 0, "lineOf(?, 0, 0)")
            .only(0, 0, "lineOf(0, ?, 2)")
            .rows("accept(0) -> 10")
            .only(0, 0, "lineOf(?, 0, 2)")
            .only(0, 0, "lineOf(0, ?, 2)");
    }

    private static void whatIsNone() {
        new Run("promise 17: what is none of these").rows(START).rows("""
            quota(0, 0, 1, 0, 0, 9999) -> 0
            line(0, 0, 0, 2, 0, 100, true) -> 0
            """)
            .only(0, 2, "lineOf(0, 0, ?)")
            .rows("""
            lineOf(0, 0, 0) -> 100
            lineOf(0, 0, 1) -> 1
            lineOf(0, 0, 2) -> 5
            accept(0) -> 5
            """)
            .only(0, 2, "lineOf(0, 0, ?)")
            .rows("""
            lineOf(0, 0, 0) -> 100
            lineOf(0, 0, 1) -> 1
            lineOf(0, 0, 2) -> 5
            """);
    }

    private static void valueWithoutAssessing() {
        new Run("promise 17: the value of what cannot be assessed").rows("""
            declare(5, 5) -> 0
            line(0, 0, 0, 1, 0, 100, true) -> 0
            charge(0, 0, 9) -> done
            lineOf(0, 0, 0) -> 109
            lineOf(0, 0, 1) -> NoSuchElementException
            """);
    }

    private static void notAcceptedAndNotToBeAssessed() {
        new Run("promise 17: what is not 0, not accepted and cannot be assessed").rows("""
            declare(5, 5) -> 0
            line(0, 0, 0, 1, 0, 100, true) -> 0
            lineOf(0, 0, 1) -> NoSuchElementException
            lineOf(0, 0, 2) -> NoSuchElementException
            """)
            // what follows is named first
            .only(0, 2, "lineOf(0, 0, ?)")
            .only(0, 0, "lineOf(0, ?, 1)")
            .only(0, 0, "lineOf(?, 0, 2)")
            .rows("""
            heading(-1) -> 0
            lineOf(0, 0, 1) -> NoSuchElementException      # a class, but no rate
            lineOf(0, 0, 2) -> NoSuchElementException
            rate(0, 0, 0, 1000, 0, 0, 4) -> 0
            rate(0, 0, 0, 1000, 0, 6, 9999) -> 1
            lineOf(0, 0, 2) -> NoSuchElementException      # none for this day
            rate(0, 0, 0, 1000, 0, 5, 5) -> 2
            lineOf(0, 0, 1) -> 0
            lineOf(0, 0, 2) -> 10
            """);
    }

    private static void acceptedAndNoMoreToBeAssessed() {
        new Run("promise 17: as they were booked, though it cannot be assessed now").rows(START).rows("""
            quota(0, 0, 1, 0, 0, 9999) -> 0
            line(0, 0, 0, 2, 0, 100, true) -> 0
            accept(0) -> 5
            note(0, 0, 0, 1) -> 0
            classify(0) -> -1
            lineOf(0, 0, 0) -> 100
            lineOf(0, 0, 1) -> 1
            lineOf(0, 0, 2) -> 5
            """);
    }

    private static void asItWouldBeNow() {
        new Run("promise 17: as they would be if it was assessed now").rows(START).rows("""
            quota(0, 0, 3, 0, 0, 9999) -> 0
            line(0, 0, 0, 2, 0, 100, true) -> 0
            declare(6, 0) -> 1
            line(1, 0, 0, 2, 0, 100, true) -> 0
            lineOf(1, 0, 1) -> 2
            lineOf(1, 0, 1) -> 2                   # asking takes nothing
            lineOf(1, 0, 2) -> 0
            accept(0) -> 0
            lineOf(1, 0, 1) -> 1
            lineOf(1, 0, 2) -> 5
            rate(0, -1, 0, 2000, 0, 0, 9999) -> 1
            lineOf(1, 0, 2) -> 10
            lineOf(0, 0, 2) -> 0
            quotaLeft(0) -> 1
            """);
    }
}
