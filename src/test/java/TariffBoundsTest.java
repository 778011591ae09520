/** Promises 2 to 5 at the bounds that they name, and the calls that they refuse. */
public final class TariffBoundsTest {
    public static void main(String[] args) {
        parentThatIsNone();
        thereAre24Headings();
        depthWouldBe6();
        manyHeadingsAndGreatDepth();
        headingOfANote();
        kindOfANote();
        factOfANote();
        amountOfANote();
        mainlyOfNoMaterial();
        thereAre40Notes();
        goodOfAFact();
        factThatIsNone();
        amountOfAFact();
        whatItWas();
        goodToClassify();
        Run.finish();
    }

    private static void parentThatIsNone() {
        new Run("promise 2: parent is neither -1 nor a heading")
            .only(-1, -1, "heading(?)")
            .rows("heading(-1) -> 0")
            .only(-1, 0, "heading(?)")
            .rows("heading(0) -> 1")
            .only(-1, 1, "heading(?)")
            .rows("""
            heading(1) -> 2
            heading(-1) -> 3
            """);
    }

    private static void thereAre24Headings() {
        new Run("promise 2: there are 24")
            .counting(23, "heading(-1)", 0)
            .rows("""
            heading(22) -> 23
            heading(-1) -> IllegalStateException
            heading(0) -> IllegalStateException
            heading(23) -> IllegalStateException
            """)
            // what follows is named first
            .only(-1, 23, "heading(?)")
            .rows("classify(0) -> 23");
    }

    private static void depthWouldBe6() {
        new Run("promise 2: its depth would be 6").rows("""
            heading(-1) -> 0
            heading(0) -> 1
            heading(1) -> 2
            heading(2) -> 3
            heading(3) -> 4
            heading(4) -> 5
            heading(5) -> IllegalStateException
            """)
            .only(-1, 5, "heading(?)")
            .rows("""
            heading(4) -> 6
            heading(6) -> IllegalStateException
            heading(0) -> 7
            heading(7) -> 8
            """);
    }

    private static void manyHeadingsAndGreatDepth() {
        new Run("promise 2: there are 24, and its depth would be 6").rows("""
            heading(-1) -> 0
            heading(0) -> 1
            heading(1) -> 2
            heading(2) -> 3
            heading(3) -> 4
            """)
            .counting(19, "heading(4)", 5)
            .rows("heading(23) -> IllegalStateException")
            .only(-1, 23, "heading(?)")
            .rows("classify(0) -> 23");
    }

    private static void headingOfANote() {
        new Run("promise 3: a heading that is none")
            .only(0, -1, "note(?, 0, 0, 1)")
            .rows("heading(-1) -> 0\nheading(-1) -> 1")
            .only(0, 1, "note(?, 0, 0, 1)")
            .rows("""
            note(0, 0, 0, 1) -> 0
            note(1, 0, 0, 1) -> 1
            classify(0) -> -1
            """);
    }

    private static void kindOfANote() {
        new Run("promise 3: kind is not 0 .. 2").rows("heading(-1) -> 0")
            .only(0, 2, "note(0, ?, 0, 1)")
            .rows("""
            classify(0) -> 0
            note(0, 1, 0, 6) -> 0
            classify(0) -> 0
            note(0, 0, 0, 5) -> 1
            classify(0) -> -1
            fact(0, 0, 5) -> 0
            classify(0) -> 0
            note(0, 2, 0, 5) -> 2
            fact(0, 1, 6) -> 0
            classify(0) -> -1
            """);
    }

    private static void factOfANote() {
        new Run("promise 3: a fact that is none").rows("heading(-1) -> 0")
            .only(0, 7, "note(0, 0, ?, 1)")
            .only(0, 7, "note(0, 1, ?, 1)")
            .rows("""
            note(0, 0, 0, 1) -> 0
            note(0, 1, 7, 1) -> 1
            """);
    }

    private static void amountOfANote() {
        new Run("promise 3: amount not 1 .. 1000").rows("heading(-1) -> 0")
            .only(1, 1000, "note(0, 0, 0, ?)")
            .only(1, 1000, "note(0, 1, 0, ?)")
            .only(1, 1000, "note(0, 2, 0, ?)")
            .rows("""
            note(0, 0, 0, 1) -> 0
            note(0, 1, 0, 1000) -> 1
            classify(0) -> -1
            fact(0, 0, 1) -> 0
            classify(0) -> 0
            fact(0, 0, 999) -> 1
            classify(0) -> 0
            fact(0, 0, 1000) -> 999
            classify(0) -> -1
            """);
    }

    private static void mainlyOfNoMaterial() {
        new Run("promise 3: it is MAINLY and the fact no material").rows("heading(-1) -> 0")
            .only(0, 3, "note(0, 2, ?, 1)")
            .rows("""
            note(0, 2, 4, 1) -> IllegalArgumentException
            note(0, 2, 7, 1) -> IllegalArgumentException
            note(0, 0, 4, 1) -> 0                  # of another kind it may be any
            note(0, 1, 4, 2) -> 1
            note(0, 2, 0, 1) -> 2
            note(0, 2, 3, 1) -> 3
            """);
    }

    private static void thereAre40Notes() {
        new Run("promise 3: there are 40").rows("heading(-1) -> 0")
            .counting(39, "note(0, 1, 0, 1000)", 0)
            .rows("""
            note(0, 0, 0, 7) -> 39                 # the 40th holds or not as any other
            classify(0) -> -1
            fact(0, 0, 7) -> 0
            classify(0) -> 0
            note(0, 0, 0, 8) -> IllegalStateException
            classify(0) -> 0
            """)
            // what follows is named first
            .only(0, 0, "note(?, 0, 0, 8)")
            .only(0, 2, "note(0, ?, 0, 8)")
            .only(0, 7, "note(0, 0, ?, 8)")
            .only(1, 1000, "note(0, 0, 0, ?)")
            .only(0, 3, "note(0, 2, ?, 8)");
    }

    private static void goodOfAFact() {
        new Run("promise 4: a good that is none")
            .only(0, 15, "fact(?, 0, 1)")
            .rows("""
            fact(0, 0, 1) -> 0
            fact(15, 0, 2) -> 0
            fact(0, 0, 0) -> 1
            fact(15, 0, 0) -> 2
            """);
    }

    private static void factThatIsNone() {
        new Run("promise 4: a fact that is none")
            .only(0, 7, "fact(0, ?, 1)")
            .rows("""
            fact(0, 0, 1) -> 0
            fact(0, 7, 2) -> 0
            fact(0, 0, 0) -> 1
            fact(0, 7, 0) -> 2
            """);
    }

    private static void amountOfAFact() {
        new Run("promise 4: amount is not 0 .. 1000")
            .rows("fact(0, 0, 500) -> 0")
            .only(0, 1000, "fact(0, 0, ?)")
            .rows("""
            fact(0, 0, 1000) -> 500
            fact(0, 0, 0) -> 1000
            fact(0, 0, 0) -> 0
            """);
    }

    private static void whatItWas() {
        new Run("promise 4: sets the amount; what it was").rows("""
            fact(3, 5, 9) -> 0
            fact(3, 5, 9) -> 9
            fact(3, 5, 1001) -> IllegalArgumentException
            fact(3, 4, 1) -> 0                     # of another fact
            fact(4, 5, 1) -> 0                     # of another good
            fact(3, 5, 0) -> 9
            """);
    }

    private static void goodToClassify() {
        new Run("promise 5: a good that is none")
            .only(0, 15, "classify(?)")
            .rows("""
            classify(0) -> -1
            heading(-1) -> 0
            classify(0) -> 0
            classify(15) -> 0
            """)
            .only(0, 15, "classify(?)");
    }
}
