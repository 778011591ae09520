/** Promises 10 to 13 at the bounds that they name, and the calls that they refuse. */
public final class OriginBoundsTest {
    public static void main(String[] args) {
        goodsAndLandOfAPart();
        valueOfAPart();
        partOfItself();
        partThatComesRound();
        itHas5Parts();
        zoneThatIsNone();
        landsOfAZone();
        headingOfARule();
        kindOfARule();
        limitOfARule();
        noOtherRule();
        goodOrZoneThatIsNone();
        withoutParts();
        withoutAClass();
        withoutARule();
        nearestRule();
        landOutsideTheZone();
        partsThatAreNotMadeThere();
        Run.finish();
    }

    private static void goodsAndLandOfAPart() {
        new Run("promise 10: a good or land that is none")
            .only(0, 15, "part(?, 1, 0, 0)")
            .only(0, 15, "part(1, ?, 0, 0)")
            .only(0, 7, "part(1, 2, 0, ?)")
            .rows("""
            part(0, 15, 0, 0) -> 1
            part(0, 15, 0, 7) -> 2
            part(14, 0, 0, 0) -> 1
            part(14, 15, 0, 7) -> 2
            """);
    }

    private static void valueOfAPart() {
        new Run("promise 10: value is not 0 .. 1000000")
            .only(0, 1000000, "part(0, 1, ?, 0)")
            .rows("""
            heading(-1) -> 0
            zone(0, 1) -> done
            rule(0, 1, 500) -> done
            part(0, 1, 1000000, 0) -> 1
            part(0, 1, 1000000, 1) -> 2
            madeIn(0, 0) -> true                   # the half
            part(0, 1, 0, 1) -> 3
            madeIn(0, 0) -> true
            part(0, 1, 1, 1) -> 4
            madeIn(0, 0) -> false
            """);
    }

    private static void partOfItself() {
        new Run("promise 10: it would be a part of itself")
            .times(16, "part($, $, 1, 0) -> IllegalArgumentException")
            .times(15, "part($, 15, 1, 0) -> 1");
    }

    private static void partThatComesRound() {
        new Run("promise 10: it would come round to itself").rows("""
            part(0, 1, 1, 0) -> 1
            part(1, 0, 1, 0) -> IllegalArgumentException
            part(1, 2, 1, 0) -> 1
            part(2, 0, 1, 0) -> IllegalArgumentException
            part(2, 1, 1, 0) -> IllegalArgumentException
            part(0, 2, 1, 0) -> 2                  # by two ways, but not round
            part(4, 5, 1, 0) -> 1
            part(5, 6, 1, 0) -> 1
            part(6, 0, 1, 0) -> 1
            part(2, 4, 1, 0) -> IllegalArgumentException   # by 4, 5, 6, 0 and 1 to 2
            part(2, 5, 1, 0) -> IllegalArgumentException
            part(2, 6, 1, 0) -> IllegalArgumentException
            part(2, 7, 1, 0) -> 1
            part(7, 4, 1, 0) -> IllegalArgumentException   # 7 is inside 2 now, and so inside 4
            part(4, 7, 1, 0) -> 2
            """);
    }

    private static void itHas5Parts() {
        new Run("promise 10: it has 5")
            .counting(5, "part(3, 4, 7, 0)", 1)
            .rows("part(3, 4, 7, 0) -> IllegalStateException")
            // what follows is named first
            .only(0, 15, "part(3, ?, 7, 0)")
            .only(0, 1000000, "part(3, 4, ?, 0)")
            .only(0, 7, "part(3, 4, 7, ?)")
            .rows("""
            part(3, 3, 7, 0) -> IllegalArgumentException
            part(2, 3, 7, 0) -> 1
            part(3, 2, 7, 0) -> IllegalArgumentException   # it would come round
            part(3, 5, 7, 0) -> IllegalStateException
            part(5, 3, 7, 0) -> 1                  # 5 is not inside 3
            part(4, 6, 7, 0) -> 1                  # others have room
            """);
    }

    private static void zoneThatIsNone() {
        new Run("promise 11: a zone that is none")
            .only(0, 3, "zone(?, 0)")
            .rows("""
            zone(0, 1) -> done
            zone(3, 1) -> done
            """);
    }

    private static void landsOfAZone() {
        new Run("promise 11: lands is not 0 .. 255").rows("""
            heading(-1) -> 0
            rule(0, 0, 0) -> done
            part(0, 8, 1, 0) -> 1
            part(1, 8, 1, 1) -> 1
            part(7, 8, 1, 7) -> 1
            zone(0, 254) -> done
            """)
            .only(0, 255, "zone(0, ?)")
            .rows("""
            madeIn(0, 0) -> false
            madeIn(1, 0) -> true
            madeIn(7, 0) -> true
            zone(0, 255) -> done
            madeIn(0, 0) -> true
            madeIn(7, 0) -> true
            zone(0, 0) -> done
            madeIn(0, 0) -> false
            madeIn(1, 0) -> false
            madeIn(7, 0) -> false
            zone(0, 1) -> done
            madeIn(0, 0) -> true
            madeIn(1, 0) -> false
            zone(0, 128) -> done
            madeIn(0, 0) -> false
            madeIn(7, 0) -> true
            """);
    }

    private static void headingOfARule() {
        new Run("promise 12: a heading that is none")
            .only(0, -1, "rule(?, 0, 0)")
            .rows("heading(-1) -> 0\nheading(-1) -> 1")
            .only(0, 1, "rule(?, 0, 0)")
            .rows("""
            rule(0, 0, 0) -> done
            rule(1, 0, 0) -> done
            """);
    }

    private static void kindOfARule() {
        new Run("promise 12: kind is not 0 or 1").rows("""
            heading(-1) -> 0
            part(0, 1, 1, 0) -> 1
            """)
            .only(0, 1, "rule(0, ?, 1000)")
            .rows("""
            madeIn(0, 0) -> false                  # there is none yet
            rule(0, 1, 1000) -> done
            madeIn(0, 0) -> true
            rule(0, 0, 1000) -> done
            madeIn(0, 0) -> false
            """)
            .only(0, 1, "rule(0, ?, 1000)");
    }

    private static void limitOfARule() {
        new Run("promise 12: limit not 0 .. 1000").rows("""
            heading(-1) -> 0
            part(0, 1, 1, 0) -> 1
            """)
            .only(0, 1000, "rule(0, 1, ?)")
            .only(0, 1000, "rule(0, 0, ?)")
            .rows("""
            rule(0, 1, 1000) -> done
            madeIn(0, 0) -> true
            rule(0, 1, 0) -> done
            madeIn(0, 0) -> false
            rule(0, 0, 1000) -> done
            rule(0, 0, 0) -> done
            """);
    }

    private static void noOtherRule() {
        new Run("promise 12: this rule, and no other one").rows("""
            heading(-1) -> 0
            part(0, 1, 1, 0) -> 1
            rule(0, 1, 1000) -> done
            rule(0, 1, 999) -> done
            madeIn(0, 0) -> false                  # the first one counts no more
            rule(0, 0, 999) -> done
            rule(0, 1, 1000) -> done
            madeIn(0, 0) -> true                   # nor does CHANGE
            """);
    }

    private static void goodOrZoneThatIsNone() {
        new Run("promise 13: a good or a zone that is none").rows("""
            heading(-1) -> 0
            rule(0, 1, 1000) -> done
            part(0, 1, 1, 0) -> 1
            part(15, 1, 1, 0) -> 1
            """)
            .only(0, 15, "madeIn(?, 0)")
            .only(0, 3, "madeIn(0, ?)")
            .rows("""
            madeIn(0, 0) -> true
            madeIn(15, 3) -> true
            """);
    }

    private static void withoutParts() {
        new Run("promise 13: if it has parts").rows("""
            heading(-1) -> 0
            rule(0, 1, 1000) -> done
            zone(0, 255) -> done
            madeIn(0, 0) -> false
            part(1, 0, 0, 0) -> 1
            madeIn(0, 0) -> false                  # it is one, but has none
            part(0, 2, 0, 0) -> 1
            madeIn(0, 0) -> true
            """);
    }

    private static void withoutAClass() {
        new Run("promise 13: has a class").rows("""
            heading(-1) -> 0
            note(0, 0, 0, 1) -> 0
            rule(0, 1, 1000) -> done
            zone(0, 255) -> done
            part(0, 1, 0, 0) -> 1
            madeIn(0, 0) -> false
            fact(0, 0, 1) -> 0
            madeIn(0, 0) -> true
            """);
    }

    private static void withoutARule() {
        new Run("promise 13: a rule is found").rows("""
            heading(-1) -> 0
            heading(0) -> 1
            heading(1) -> 2
            note(2, 0, 0, 1) -> 0
            heading(-1) -> 3
            part(0, 1, 0, 0) -> 1
            classify(0) -> 1
            madeIn(0, 0) -> false
            rule(2, 1, 1000) -> done
            madeIn(0, 0) -> false                  # of a heading under it
            rule(3, 1, 1000) -> done
            madeIn(0, 0) -> false                  # of one beside it
            rule(0, 1, 1000) -> done
            madeIn(0, 0) -> true
            """);
    }

    private static void nearestRule() {
        new Run("promise 13: that of the class, or of the nearest heading above it").rows("""
            heading(-1) -> 0
            heading(0) -> 1
            heading(1) -> 2
            heading(2) -> 3
            heading(3) -> 4
            heading(4) -> 5
            part(0, 1, 1, 0) -> 1
            rule(0, 1, 1000) -> done
            madeIn(0, 0) -> true                   # the fifth above it
            rule(1, 1, 0) -> done
            madeIn(0, 0) -> false
            rule(4, 1, 1000) -> done
            madeIn(0, 0) -> true
            rule(5, 1, 0) -> done
            madeIn(0, 0) -> false
            """);
    }

    private static void landOutsideTheZone() {
        new Run("promise 13: foreign are the parts whose land is not in the zone").rows("""
            heading(-1) -> 0
            rule(0, 1, 0) -> done
            part(1, 2, 1, 0) -> 1
            part(0, 1, 1, 7) -> 1
            zone(0, 1) -> done
            zone(1, 129) -> done
            madeIn(1, 0) -> true
            madeIn(0, 0) -> false                  # its part is made there, but of another land
            madeIn(0, 1) -> true
            """);
    }

    private static void partsThatAreNotMadeThere() {
        new Run("promise 13: and those that have parts but are not made in it").rows("""
            heading(-1) -> 0
            rule(0, 1, 0) -> done
            zone(0, 1) -> done
            zone(1, 3) -> done
            part(0, 1, 1, 0) -> 1
            madeIn(0, 0) -> true                   # a part without parts
            part(1, 2, 1, 1) -> 1
            madeIn(1, 0) -> false
            madeIn(0, 0) -> false
            madeIn(1, 1) -> true
            madeIn(0, 1) -> true
            """);
    }
}
