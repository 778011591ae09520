/** Promises 10 to 13: where goods are made, by their parts, the zones and the rules. */
public final class OriginTest {
    public static void main(String[] args) {
        changeRule();
        shareRule();
        partsOfParts();
        manyPartsOfParts();
        Run.finish();
    }

    private static void changeRule() {
        new Run("promise 13: CHANGE").rows("""
            heading(-1) -> 0
            heading(-1) -> 1
            note(0, 0, 0, 1) -> 0
            note(1, 0, 1, 1) -> 1
            rule(0, 0, 0) -> done
            zone(2, 6) -> done
            fact(0, 0, 1) -> 0
            fact(1, 0, 1) -> 0
            part(0, 1, 5, 1) -> 1
            madeIn(0, 2) -> true                   # the same class, but not foreign
            part(0, 2, 5, 0) -> 2
            madeIn(0, 2) -> true                   # foreign, but without a class
            fact(2, 1, 1) -> 0
            madeIn(0, 2) -> true                   # of another class
            fact(2, 1, 0) -> 1
            fact(2, 0, 1) -> 0
            madeIn(0, 2) -> false
            zone(2, 7) -> done
            madeIn(0, 2) -> true
            fact(0, 0, 0) -> 1
            madeIn(0, 2) -> false                  # no class, as some parts have none
            """);
    }

    private static void shareRule() {
        new Run("promise 13: SHARE").rows("""
            heading(-1) -> 0
            rule(0, 1, 0) -> done
            part(0, 1, 0, 0) -> 1
            madeIn(0, 0) -> true                   # nothing is at most nothing
            part(0, 1, 1, 0) -> 2
            madeIn(0, 0) -> false
            zone(0, 2) -> done
            part(0, 1, 2, 1) -> 3
            rule(0, 1, 333) -> done
            madeIn(0, 0) -> false                  # 1000 against 999
            rule(0, 1, 334) -> done
            madeIn(0, 0) -> true
            part(0, 1, 1, 1) -> 4
            rule(0, 1, 250) -> done
            madeIn(0, 0) -> true                   # 1000 against 1000
            rule(0, 1, 249) -> done
            madeIn(0, 0) -> false
            """);
        new Run("promise 13: great values").rows("""
            heading(-1) -> 0
            rule(0, 1, 999) -> done
            part(0, 1, 1000000, 0) -> 1
            part(0, 1, 1000000, 0) -> 2
            part(0, 1, 1000000, 0) -> 3
            part(0, 1, 1000000, 0) -> 4
            part(0, 1, 1000000, 0) -> 5
            madeIn(0, 0) -> false
            zone(0, 1) -> done
            madeIn(0, 0) -> true
            """);
    }

    private static void partsOfParts() {
        new Run("promise 13: parts of parts").rows("""
            heading(-1) -> 0
            heading(-1) -> 1
            note(1, 0, 7, 1) -> 0
            fact(1, 7, 1) -> 0
            rule(0, 0, 0) -> done
            zone(0, 1) -> done
            part(0, 1, 10, 0) -> 1
            madeIn(0, 0) -> true
            part(1, 2, 10, 0) -> 1
            madeIn(1, 0) -> false                  # heading 1 has no rule
            madeIn(0, 0) -> true                   # 1 is foreign, but of another class
            rule(0, 1, 999) -> done
            madeIn(0, 0) -> false                  # 1 has parts but is not made there
            rule(1, 1, 0) -> done
            madeIn(1, 0) -> true
            madeIn(0, 0) -> true
            part(0, 1, 10, 3) -> 2
            rule(0, 1, 499) -> done
            madeIn(0, 0) -> false                  # made there, but of a land outside
            rule(0, 1, 500) -> done
            madeIn(0, 0) -> true
            part(2, 3, 1, 5) -> 1
            madeIn(2, 0) -> false
            madeIn(1, 0) -> false                  # and so 2 is foreign in 1, and 1 in 0
            madeIn(0, 0) -> false
            """);
    }

    private static void manyPartsOfParts() {
        Run run = new Run("promise 13: fifteen levels of five parts").rows("""
            heading(-1) -> 0
            rule(0, 1, 0) -> done
            zone(1, 16) -> done
            """);
        for (int good = 14; good >= 0; good--) {
            for (int number = 1; number <= 5; number++) {
                run.rows("part(" + good + ", " + (good + 1) + ", 1, 4) -> " + number);
            }
        }
        run.rows("""
            madeIn(0, 1) -> true
            madeIn(0, 0) -> false
            part(15, 0, 1, 4) -> IllegalArgumentException
            zone(1, 0) -> done
            madeIn(0, 1) -> false
            rule(0, 1, 1000) -> done
            madeIn(0, 1) -> true
            """);
    }
}
