/** Promises 1 and 5: a new object, and the classes of goods by headings, notes and facts. */
public final class TariffTest {
    public static void main(String[] args) {
        newObject();
        needsAndBars();
        mainly();
        notesOfHeadingsAbove();
        depthThenShareThenLast();
        smallAndOtherShares();
        Run.finish();
    }

    private static void newObject() {
        new Run("promise 1").rows("""
            classify(0) -> -1
            classify(15) -> -1
            rateFor(0, 0, 0) -> IllegalArgumentException
            quotaLeft(0) -> IllegalArgumentException
            note(0, 0, 0, 1) -> IllegalArgumentException
            rule(0, 0, 0) -> IllegalArgumentException
            madeIn(0, 0) -> false
            lineOf(0, 0, 0) -> IllegalArgumentException
            accept(0) -> IllegalArgumentException
            lot(0, 0) -> IllegalArgumentException
            release(0, 1) -> IllegalStateException
            export(0, 1) -> IllegalStateException
            books(0) -> 0
            books(1) -> 0
            """)
            .times(6, "account(7, $) -> 0")
            .times(8, "fact(3, $, 1) -> 0");
        new Run("promise 1: numbers begin at 0").rows("""
            heading(-1) -> 0
            classify(0) -> 0
            rateFor(0, 0, 0) -> -1
            rate(0, -1, 0, 0, 0, 0, 0) -> 0
            note(0, 1, 0, 1) -> 0
            quota(0, 0, 1, 0, 0, 0) -> 0
            declare(0, 0) -> 0
            """);
    }

    private static void needsAndBars() {
        new Run("promise 5: NEEDS and BARS").rows("""
            heading(-1) -> 0
            heading(-1) -> 1
            note(0, 0, 5, 10) -> 0
            note(1, 1, 6, 20) -> 1
            fact(2, 5, 9) -> 0
            fact(2, 6, 20) -> 0
            classify(2) -> -1
            classify(3) -> 1                       # has nothing of fact 6
            fact(2, 5, 10) -> 9
            classify(2) -> 0
            fact(2, 5, 11) -> 10
            classify(2) -> 0
            fact(2, 6, 19) -> 20
            classify(2) -> 1
            note(1, 0, 7, 1) -> 2                  # all notes must hold
            classify(2) -> 0
            """);
    }

    private static void mainly() {
        new Run("promise 5: MAINLY").rows("""
            heading(-1) -> 0
            note(0, 2, 1, 100) -> 0
            fact(0, 1, 99) -> 0
            classify(0) -> -1
            fact(0, 1, 100) -> 99
            classify(0) -> 0
            fact(0, 3, 100) -> 0
            classify(0) -> 0                       # as much is not greater
            fact(0, 3, 101) -> 100
            classify(0) -> -1
            fact(0, 3, 0) -> 101
            fact(0, 0, 101) -> 0
            classify(0) -> -1
            fact(0, 0, 0) -> 101
            fact(0, 4, 1000) -> 0
            classify(0) -> 0                       # fact 4 is no material
            """);
    }

    private static void notesOfHeadingsAbove() {
        new Run("promise 5: notes of those above").rows("""
            heading(-1) -> 0
            heading(0) -> 1
            heading(1) -> 2
            heading(-1) -> 3
            note(0, 0, 0, 1) -> 0
            classify(0) -> 3
            fact(0, 0, 1) -> 0
            classify(0) -> 2
            note(1, 0, 1, 1) -> 1
            classify(0) -> 3                       # of depth 0 the last one
            note(3, 0, 2, 1) -> 2
            classify(0) -> 0
            """);
    }

    private static void depthThenShareThenLast() {
        new Run("promise 5: depth, share, last").rows("""
            heading(-1) -> 0
            note(0, 2, 0, 1) -> 0
            heading(-1) -> 1
            heading(-1) -> 2
            fact(0, 0, 5) -> 0
            classify(0) -> 0                       # its share is 5, the others' is 0
            classify(1) -> 2
            note(2, 2, 1, 1) -> 1
            fact(0, 1, 5) -> 0
            classify(0) -> 2                       # the same share, the last one
            heading(0) -> 3
            heading(1) -> 4
            classify(0) -> 3                       # its share comes from above
            fact(0, 0, 0) -> 5
            classify(0) -> 4                       # depth comes before share
            heading(1) -> 5
            classify(0) -> 5
            note(4, 2, 1, 1) -> 2
            classify(0) -> 4
            """);
    }

    private static void smallAndOtherShares() {
        new Run("promise 5: a share of 1, and of each good its own").rows("""
            heading(-1) -> 0
            heading(-1) -> 1
            note(0, 2, 0, 1) -> 0
            fact(0, 0, 1) -> 0
            classify(0) -> 0                       # 1 against 0
            note(1, 2, 1, 1) -> 1
            fact(0, 0, 9) -> 1
            classify(0) -> 0
            fact(1, 0, 5) -> 0
            fact(1, 1, 5) -> 0
            classify(1) -> 1
            """);
    }
}
