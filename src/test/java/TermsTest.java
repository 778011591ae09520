/** The sentences of the document's terms, one by one, at the bounds that they name. */
public final class TermsTest {
    /** A heading, a rate of a tenth of the value for all, and a declaration without lines. */
    private static final String START = """
            heading(-1) -> 0
            rate(0, -1, 0, 1000, 0, 0, 9999) -> 0
            declare(5, 5) -> 0
            """;

    public static void main(String[] args) {
        callsOfAnObject();
        goods();
        lands();
        days();
        amounts();
        facts();
        materials();
        depth();
        headingsAboveAtTheGreatestDepth();
        needs();
        bars();
        mainly();
        mainlyAmongMaterials();
        noClass();
        greatestDepth();
        greatestShare();
        shareWithoutAny();
        daysOfARate();
        daysOfAQuota();
        unitsAtFirstLeft();
        fiveParts();
        roundByAllGoods();
        zones();
        partOfTheSameClass();
        partWithoutAClass();
        limitOfForeignParts();
        linesOfADeclaration();
        chargesAtFirst();
        centsThatAreLeft();
        sameRemainders();
        weightsOfZero();
        valueOfBothCharges();
        greaterOfBoth();
        halvesGoUp();
        reducedAllOrNone();
        roundedInTheEnd();
        quotaThatIsUsedUp();
        lessOfUnitsAndLeft();
        goneForLinesBehind();
        canBeAssessed();
        partsOfADuty();
        lotsByTheirNumbers();
        Run.finish();
    }

    private static void callsOfAnObject() {
        new Run("used for at most 512 calls").rows(START).rows("""
            line(0, 1, 0, 1000, 0, 10000, true) -> 0
            accept(0) -> 1000
            """)
            .times(506, "release(1, 1) -> 1")
            .rows("books(0) -> 506                 # the 512th");
    }

    private static void goods() {
        new Run("goods are 0 .. 15").rows(START).rows("""
            line(0, 3, 0, 9, 0, 900, true) -> 0
            line(0, 3, 0, 9, 0, 900, false) -> 1
            accept(0) -> 180
            declare(6, 0) -> 1
            """)
            .only(0, 15, "fact(?, 0, 1)")
            .only(0, 15, "classify(?)")
            .only(0, 15, "part(?, 3, 1, 0)")
            .only(0, 15, "part(3, ?, 1, 0)")
            .only(0, 15, "madeIn(?, 0)")
            .only(0, 15, "line(1, ?, 0, 1, 0, 1, true)")
            .only(0, 15, "release(?, 1)")
            .only(0, 15, "export(?, 1)")
            .only(0, 15, "work(?, 1, 3, 1)")
            .only(0, 15, "work(3, 1, ?, 1)")
            .only(0, 15, "account(?, 0)");
        new Run("the goods 0 and 15").rows(START).rows("""
            fact(0, 0, 1) -> 0
            fact(15, 0, 1) -> 0
            classify(0) -> 0
            classify(15) -> 0
            part(0, 3, 1, 0) -> 1
            part(15, 3, 1, 0) -> 1
            part(4, 0, 1, 0) -> 1
            part(4, 15, 1, 0) -> 2
            madeIn(0, 0) -> false
            madeIn(15, 0) -> false
            line(0, 0, 0, 2, 0, 1000, true) -> 0
            line(0, 15, 0, 2, 0, 1000, true) -> 1
            line(0, 0, 0, 1, 0, 1000, false) -> 2
            line(0, 15, 0, 1, 0, 1000, false) -> 3
            accept(0) -> 400
            release(0, 1) -> 50
            release(15, 1) -> 50
            export(0, 1) -> 100
            export(15, 1) -> 100
            work(0, 1, 15, 1) -> 4
            work(15, 1, 0, 1) -> 5
            account(0, 5) -> 1
            account(15, 5) -> 1
            """);
    }

    private static void lands() {
        new Run("lands are 0 .. 7").rows(START)
            .only(-1, 7, "rate(0, ?, 0, 1, 1, 0, 9)")
            .only(0, 7, "rateFor(0, ?, 5)")
            .only(0, 7, "quota(0, ?, 1, 0, 0, 9)")
            .only(0, 7, "part(0, 1, 1, ?)")
            .only(0, 7, "line(0, 0, ?, 1, 0, 1, true)");
        new Run("the lands 0 and 7").rows(START).rows("""
            rate(0, 0, 0, 1, 1, 0, 9) -> 1
            rate(0, 7, 0, 1, 1, 0, 9) -> 2
            rateFor(0, 0, 5) -> 1
            rateFor(0, 6, 5) -> 0
            rateFor(0, 7, 5) -> 2
            quota(0, 0, 1, 0, 0, 9) -> 0
            quota(0, 7, 1, 0, 0, 9) -> 1
            part(0, 1, 1, 0) -> 1
            part(0, 1, 1, 7) -> 2
            line(0, 0, 0, 1, 0, 100, true) -> 0
            line(0, 0, 7, 1, 0, 100, true) -> 1
            line(0, 0, 6, 1, 0, 100, true) -> 2
            lineOf(0, 0, 1) -> 1
            lineOf(0, 1, 1) -> 1
            lineOf(0, 2, 1) -> 0
            """);
    }

    private static void days() {
        new Run("days are 0 .. 9999").rows(START)
            .only(0, 9999, "rate(0, 0, 0, 1, 1, ?, 9999)")
            .only(0, 9999, "rate(0, 0, 0, 1, 1, 0, ?)")
            .only(0, 9999, "rateFor(0, 0, ?)")
            .only(0, 9999, "quota(0, 0, 1, 0, ?, 9999)")
            .only(0, 9999, "quota(0, 0, 1, 0, 0, ?)")
            .only(0, 9999, "declare(?, 0)");
        new Run("the days 0 and 9999").rows(START).rows("""
            rate(0, 0, 0, 1, 1, 0, 0) -> 1
            rate(0, 0, 0, 1, 1, 9999, 9999) -> 2
            rateFor(0, 0, 0) -> 1
            rateFor(0, 0, 1) -> 0
            rateFor(0, 0, 9998) -> 0
            rateFor(0, 0, 9999) -> 2
            quota(0, 0, 1, 0, 0, 0) -> 0
            quota(0, 0, 2, 0, 9999, 9999) -> 1
            declare(0, 0) -> 1
            declare(9999, 0) -> 2
            line(1, 0, 0, 5, 0, 1, true) -> 0
            line(2, 0, 0, 5, 0, 1, true) -> 0
            lineOf(1, 0, 1) -> 1
            lineOf(2, 0, 1) -> 2
            """);
    }

    private static void amounts() {
        new Run("amounts 0 .. 1000, at first 0").rows("heading(-1) -> 0")
            .only(0, 1000, "fact(0, 0, ?)")
            .only(1, 1000, "note(0, 0, 0, ?)")
            .times(8, "fact(0, $, 1000) -> 0")
            .times(8, "fact(15, $, 1000) -> 0")
            .times(8, "fact(0, $, 0) -> 1000")
            .times(8, "fact(0, $, 1) -> 0")
            .times(8, "fact(15, $, 0) -> 1000");
    }

    private static void facts() {
        new Run("facts 0 .. 7").rows("heading(-1) -> 0")
            .only(0, 7, "fact(0, ?, 1)")
            .only(0, 7, "note(0, 0, ?, 1)")
            .only(0, 7, "note(0, 1, ?, 1)")
            .rows("""
            note(0, 0, 0, 1) -> 0
            note(0, 0, 7, 1) -> 1
            fact(0, 0, 1) -> 0
            classify(0) -> -1
            fact(0, 7, 1) -> 0
            classify(0) -> 0
            """);
    }

    private static void materials() {
        new Run("the facts 0 .. 3 are materials").rows("heading(-1) -> 0")
            .only(0, 3, "note(0, 2, ?, 5)")
            .rows("""
            note(0, 2, 3, 5) -> 0
            fact(0, 3, 5) -> 0
            classify(0) -> 0
            fact(0, 4, 1000) -> 0
            classify(0) -> 0                       # 4 is none, and so not another one
            fact(0, 0, 6) -> 0
            classify(0) -> -1                      # but 0 is
            heading(-1) -> 1
            note(1, 2, 0, 6) -> 1
            classify(0) -> 1
            fact(0, 3, 7) -> 5
            classify(0) -> 0                       # and 3
            """);
    }

    private static void depth() {
        new Run("the depth is at most 5").rows("""
            heading(-1) -> 0
            heading(0) -> 1
            heading(1) -> 2
            heading(2) -> 3
            heading(3) -> 4
            heading(4) -> 5
            heading(5) -> IllegalStateException
            classify(0) -> 5
            note(0, 0, 0, 1) -> 0                  # the fifth above it
            classify(0) -> -1
            heading(4) -> 6
            heading(6) -> IllegalStateException
            fact(0, 0, 1) -> 0
            classify(0) -> 6
            """);
    }

    private static void headingsAboveAtTheGreatestDepth() {
        new Run("above it are its parent and all that are above that").rows("""
            heading(-1) -> 0
            heading(0) -> 1
            heading(1) -> 2
            heading(2) -> 3
            heading(3) -> 4
            heading(4) -> 5
            rateFor(5, 0, 5) -> -1
            rate(0, -1, 0, 1000, 0, 0, 9999) -> 0
            rateFor(5, 0, 5) -> 0                  # the rate of the fifth above it
            declare(5, 5) -> 0
            line(0, 0, 0, 7, 0, 700, false) -> 0
            lineOf(0, 0, 1) -> 0
            quota(0, 0, 2, 0, 0, 9999) -> 0
            lineOf(0, 0, 1) -> 2                   # its quota
            lineOf(0, 0, 2) -> 50
            part(0, 1, 1, 0) -> 1
            madeIn(0, 0) -> false
            rule(0, 1, 1000) -> done
            madeIn(0, 0) -> true                   # and its rule
            """);
    }

    private static void needs() {
        new Run("NEEDS: at least its own amount").rows("""
            heading(-1) -> 0
            note(0, 0, 7, 1) -> 0
            classify(0) -> -1
            fact(0, 7, 1) -> 0
            classify(0) -> 0
            note(0, 0, 7, 1000) -> 1
            fact(0, 7, 999) -> 1
            classify(0) -> -1
            fact(0, 7, 1000) -> 999
            classify(0) -> 0
            """);
    }

    private static void bars() {
        new Run("BARS: when it is less").rows("""
            heading(-1) -> 0
            note(0, 1, 7, 1000) -> 0
            fact(0, 7, 1000) -> 0
            classify(0) -> -1
            fact(0, 7, 999) -> 1000
            classify(0) -> 0
            note(0, 1, 7, 1) -> 1
            fact(0, 7, 1) -> 999
            classify(0) -> -1
            fact(0, 7, 0) -> 1
            classify(0) -> 0
            """);
    }

    private static void mainly() {
        new Run("MAINLY: at least the note's").rows("""
            heading(-1) -> 0
            note(0, 2, 2, 1) -> 0
            classify(0) -> -1                      # 0 of all materials
            fact(0, 2, 1) -> 0
            classify(0) -> 0
            note(0, 2, 2, 1000) -> 1
            fact(0, 2, 999) -> 1
            classify(0) -> -1
            fact(0, 2, 1000) -> 999
            classify(0) -> 0
            """);
    }

    private static void mainlyAmongMaterials() {
        new Run("MAINLY: no other material's is greater").rows("""
            heading(-1) -> 0
            note(0, 2, 1, 1) -> 0
            fact(0, 1, 10) -> 0
            fact(0, 0, 10) -> 0
            fact(0, 2, 10) -> 0
            fact(0, 3, 10) -> 0
            classify(0) -> 0                       # the same is not greater
            fact(0, 0, 11) -> 10
            classify(0) -> -1
            fact(0, 0, 9) -> 11
            fact(0, 2, 11) -> 10
            classify(0) -> -1
            fact(0, 2, 9) -> 11
            fact(0, 3, 11) -> 10
            classify(0) -> -1
            fact(0, 3, 9) -> 11
            classify(0) -> 0
            """);
    }

    private static void noClass() {
        new Run("of the headings that fit: there may be none").rows("""
            classify(0) -> -1                      # no headings
            heading(-1) -> 0
            classify(0) -> 0                       # without notes it fits all
            classify(15) -> 0
            heading(0) -> 1
            note(0, 0, 0, 1) -> 0
            classify(0) -> -1                      # one above does not fit
            """);
    }

    private static void greatestDepth() {
        new Run("the class: the greatest depth").rows("""
            heading(-1) -> 0
            heading(0) -> 1
            heading(-1) -> 2
            note(2, 2, 0, 1) -> 0
            fact(0, 0, 1000) -> 0
            classify(0) -> 1                       # though 2 is the last and has a share
            note(1, 0, 7, 1) -> 1
            classify(0) -> 2
            """);
    }

    private static void greatestShare() {
        new Run("the class: the greatest share, of several the last").rows("""
            heading(-1) -> 0
            heading(-1) -> 1
            heading(-1) -> 2
            note(0, 2, 0, 1) -> 0
            note(1, 2, 1, 1) -> 1
            note(2, 0, 7, 1) -> 2
            fact(0, 0, 8) -> 0
            fact(0, 1, 8) -> 0
            classify(0) -> 1                       # both fit, with the same share
            fact(0, 7, 1) -> 0
            classify(0) -> 1                       # the share of 2 is 0
            fact(0, 1, 7) -> 8
            classify(0) -> 0
            """);
        new Run("the share: the greatest amount of several notes").rows("""
            heading(-1) -> 0
            heading(0) -> 1
            heading(-1) -> 2
            heading(2) -> 3
            note(1, 2, 0, 1) -> 0
            note(3, 2, 1, 1) -> 1
            note(0, 2, 1, 1) -> 2                  # of one above counts as well
            fact(0, 0, 8) -> 0
            fact(0, 1, 8) -> 0
            classify(0) -> 3
            heading(0) -> 4
            classify(0) -> 4
            """);
    }

    private static void shareWithoutAny() {
        new Run("the share: 0 without any").rows("""
            heading(-1) -> 0
            heading(-1) -> 1
            note(0, 2, 0, 1) -> 0
            fact(0, 0, 1) -> 0
            fact(0, 7, 1000) -> 0
            note(1, 0, 7, 1000) -> 1
            classify(0) -> 0                       # a share of 1; NEEDS gives none
            fact(0, 0, 0) -> 1
            classify(0) -> 1
            """);
    }

    private static void daysOfARate() {
        new Run("a rate is valid from a day to a day").rows("""
            heading(-1) -> 0
            rate(0, 0, 0, 0, 0, 10, 12) -> 0
            rateFor(0, 0, 9) -> -1
            rateFor(0, 0, 10) -> 0
            rateFor(0, 0, 12) -> 0
            rateFor(0, 0, 13) -> -1
            rate(0, -1, 0, 0, 0, 13, 13) -> 1      # one day
            rateFor(0, 0, 12) -> 0
            rateFor(0, 0, 13) -> 1
            rateFor(0, 0, 14) -> -1
            """);
    }

    private static void daysOfAQuota() {
        new Run("a quota is valid from a day to a day").rows("""
            heading(-1) -> 0
            rate(0, -1, 0, 1000, 0, 0, 9999) -> 0
            quota(0, 0, 1, 0, 10, 12) -> 0
            declare(9, 0) -> 0
            declare(10, 0) -> 1
            declare(12, 0) -> 2
            declare(13, 0) -> 3
            line(0, 0, 0, 2, 0, 100, false) -> 0
            line(1, 0, 0, 2, 0, 100, false) -> 0
            line(2, 0, 0, 2, 0, 100, false) -> 0
            line(3, 0, 0, 2, 0, 100, false) -> 0
            lineOf(0, 0, 1) -> 0
            lineOf(1, 0, 1) -> 1
            lineOf(2, 0, 1) -> 1
            lineOf(3, 0, 1) -> 0
            """);
    }

    private static void unitsAtFirstLeft() {
        new Run("units of a quota: at first all left").rows("""
            heading(-1) -> 0
            quota(0, 0, 1, 0, 0, 0) -> 0
            quota(0, 0, 100000, 0, 0, 0) -> 1
            quotaLeft(0) -> 1
            quotaLeft(1) -> 100000
            """);
    }

    private static void fiveParts() {
        new Run("up to 5 parts").rows("""
            heading(-1) -> 0
            rule(0, 1, 200) -> done
            zone(0, 1) -> done
            part(0, 1, 1, 0) -> 1
            part(0, 1, 1, 0) -> 2
            part(0, 1, 1, 0) -> 3
            part(0, 1, 1, 0) -> 4
            part(0, 1, 1, 7) -> 5
            part(0, 1, 1, 0) -> IllegalStateException
            madeIn(0, 0) -> true                   # one of five
            rule(0, 1, 199) -> done
            madeIn(0, 0) -> false                  # the fifth counts
            """);
    }

    private static void roundByAllGoods() {
        Run run = new Run("round to itself by parts of parts, through all goods");
        for (int good = 0; good < 15; good++) {
            run.rows("part(" + good + ", " + (good + 1) + ", 1, 0) -> 1");
        }
        run.times(16, "part(15, $, 1, 0) -> IllegalArgumentException")
            .rows("""
            part(14, 0, 1, 0) -> IllegalArgumentException
            part(1, 0, 1, 0) -> IllegalArgumentException
            part(0, 15, 1, 0) -> 2                 # once more, but not round
            """);
    }

    private static void zones() {
        new Run("a zone, 0 .. 3, none at first").rows("""
            heading(-1) -> 0
            rule(0, 0, 0) -> done
            part(0, 1, 1, 0) -> 1
            part(2, 1, 1, 7) -> 1
            """)
            .only(0, 3, "zone(?, 1)")
            .only(0, 3, "madeIn(0, ?)")
            .times(4, "madeIn(0, $) -> false")
            .rows("""
            zone(0, 1) -> done
            madeIn(0, 0) -> true
            madeIn(2, 0) -> false
            madeIn(0, 3) -> false
            zone(3, 128) -> done
            madeIn(2, 3) -> true
            madeIn(0, 3) -> false
            madeIn(0, 0) -> true
            """);
    }

    private static void partOfTheSameClass() {
        new Run("CHANGE: no foreign part has the same class").rows("""
            heading(-1) -> 0
            heading(0) -> 1
            note(1, 0, 0, 1) -> 0
            rule(0, 0, 0) -> done
            fact(0, 0, 1) -> 0
            part(0, 1, 1, 0) -> 1
            madeIn(0, 0) -> true                   # of the heading above, not the same
            part(0, 2, 0, 0) -> 2
            fact(2, 0, 1) -> 0
            madeIn(0, 0) -> false                  # the same, though of no value
            zone(0, 1) -> done
            madeIn(0, 0) -> true
            """);
    }

    private static void partWithoutAClass() {
        new Run("CHANGE: a part without a class has not the same").rows("""
            heading(-1) -> 0
            note(0, 0, 0, 1) -> 0
            rule(0, 0, 0) -> done
            part(0, 1, 1, 0) -> 1
            madeIn(0, 0) -> false                  # the good has no class itself
            fact(0, 0, 1) -> 0
            madeIn(0, 0) -> true
            fact(1, 0, 1) -> 0
            madeIn(0, 0) -> false
            """);
    }

    private static void limitOfForeignParts() {
        new Run("SHARE: at most the limit").rows("""
            heading(-1) -> 0
            zone(0, 1) -> done
            part(0, 1, 999999, 0) -> 1
            part(0, 1, 1, 1) -> 2
            rule(0, 1, 0) -> done
            madeIn(0, 0) -> false
            rule(0, 1, 1) -> done
            madeIn(0, 0) -> true
            part(2, 1, 999, 0) -> 1
            part(2, 1, 1, 1) -> 2
            madeIn(2, 0) -> true                   # 1000 against 1000
            part(3, 1, 998, 0) -> 1
            part(3, 1, 1, 1) -> 2
            madeIn(3, 0) -> false                  # 1000 against 999
            part(4, 1, 0, 1) -> 1
            rule(0, 1, 0) -> done
            madeIn(4, 0) -> true                   # 0 against 0
            rule(0, 1, 1000) -> done
            madeIn(0, 1) -> true                   # all are foreign
            rule(0, 1, 999) -> done
            madeIn(0, 1) -> false
            """);
    }

    private static void linesOfADeclaration() {
        new Run("lines 0 .. 3, numbered as they are added").rows(START)
            .only(0, -1, "lineOf(0, ?, 0)")
            .counting(4, "line(0, 0, 0, 1, 0, 100, false)", 0)
            .rows("line(0, 0, 0, 1, 0, 100, false) -> IllegalStateException")
            .only(0, 3, "lineOf(0, ?, 0)")
            .rows("accept(0) -> 40")
            .only(0, 3, "amend(0, ?, 2, 200)")
            .rows("""
            amend(0, 0, 2, 200) -> 10
            amend(0, 3, 2, 300) -> 20
            lineOf(0, 0, 0) -> 200
            lineOf(0, 1, 0) -> 100
            lineOf(0, 3, 0) -> 300
            """);
    }

    private static void chargesAtFirst() {
        new Run("two charges, at first 0").rows("""
            declare(5, 5) -> 0
            line(0, 0, 0, 1, 9, 50, false) -> 0
            lineOf(0, 0, 0) -> 50
            charge(0, 0, 1) -> done
            lineOf(0, 0, 0) -> 51
            charge(0, 1, 2) -> done
            lineOf(0, 0, 0) -> 53
            charge(0, 0, 0) -> done
            lineOf(0, 0, 0) -> 52
            """);
    }

    private static void centsThatAreLeft() {
        new Run("spreading: cents that are left go to the greatest remainders").rows("""
            declare(5, 5) -> 0
            line(0, 0, 0, 1, 1, 0, false) -> 0
            line(0, 0, 0, 1, 3, 0, false) -> 1
            line(0, 0, 0, 1, 2, 0, false) -> 2
            charge(0, 0, 1) -> done                # 1/6, 3/6, 2/6
            lineOf(0, 0, 0) -> 0
            lineOf(0, 1, 0) -> 1
            lineOf(0, 2, 0) -> 0
            charge(0, 0, 4) -> done                # 4/6, 2, 1 2/6
            lineOf(0, 0, 0) -> 1
            lineOf(0, 1, 0) -> 2
            lineOf(0, 2, 0) -> 1
            charge(0, 0, 5) -> done                # 5/6, 2 3/6, 1 4/6: two are left
            lineOf(0, 0, 0) -> 1
            lineOf(0, 1, 0) -> 2
            lineOf(0, 2, 0) -> 2
            charge(0, 0, 6) -> done                # none is left
            lineOf(0, 0, 0) -> 1
            lineOf(0, 1, 0) -> 3
            lineOf(0, 2, 0) -> 2
            """);
    }

    private static void sameRemainders() {
        new Run("spreading: of the same remainder to the lesser line").rows("""
            declare(5, 5) -> 0
            line(0, 0, 0, 1, 0, 0, false) -> 0
            line(0, 0, 0, 1, 5, 0, false) -> 1
            line(0, 0, 0, 1, 5, 0, false) -> 2
            line(0, 0, 0, 1, 5, 0, false) -> 3
            charge(0, 0, 1) -> done
            lineOf(0, 0, 0) -> 0                   # its weight is 0 and so its remainder
            lineOf(0, 1, 0) -> 1
            lineOf(0, 2, 0) -> 0
            lineOf(0, 3, 0) -> 0
            charge(0, 0, 2) -> done
            lineOf(0, 1, 0) -> 1
            lineOf(0, 2, 0) -> 1
            lineOf(0, 3, 0) -> 0
            charge(0, 0, 3) -> done
            lineOf(0, 0, 0) -> 0
            lineOf(0, 3, 0) -> 1
            """);
    }

    private static void weightsOfZero() {
        new Run("spreading: when all weights are 0, each counts as 1").rows("""
            declare(5, 5) -> 0
            charge(0, 0, 7) -> done
            line(0, 0, 0, 1, 0, 0, false) -> 0
            lineOf(0, 0, 0) -> 7
            line(0, 0, 0, 1, 0, 0, false) -> 1
            line(0, 0, 0, 1, 0, 0, false) -> 2
            line(0, 0, 0, 1, 0, 0, false) -> 3
            lineOf(0, 0, 0) -> 2
            lineOf(0, 1, 0) -> 2
            lineOf(0, 2, 0) -> 2
            lineOf(0, 3, 0) -> 1
            charge(0, 1, 2) -> done
            lineOf(0, 1, 0) -> 3
            lineOf(0, 2, 0) -> 2
            """);
        new Run("spreading: one weight that is not 0").rows("""
            declare(5, 5) -> 0
            charge(0, 0, 7) -> done
            charge(0, 1, 9) -> done
            line(0, 0, 0, 1, 0, 1, false) -> 0
            line(0, 0, 0, 1, 1, 0, false) -> 1
            lineOf(0, 0, 0) -> 10
            lineOf(0, 1, 0) -> 7
            """);
    }

    private static void valueOfBothCharges() {
        new Run("the value: its price and its parts of both charges").rows("""
            declare(5, 5) -> 0
            line(0, 0, 0, 1, 3, 100, false) -> 0
            line(0, 0, 0, 1, 1, 300, false) -> 1
            charge(0, 0, 40) -> done
            charge(0, 1, 80) -> done
            lineOf(0, 0, 0) -> 150
            lineOf(0, 1, 0) -> 370
            """);
    }

    private static void greaterOfBoth() {
        new Run("kind 2: the greater one of both").rows("""
            heading(-1) -> 0
            rate(0, 0, 2, 1000, 5, 0, 9999) -> 0
            declare(5, 5) -> 0
            line(0, 0, 0, 1, 2, 100, false) -> 0   # 10 and 10
            line(0, 0, 0, 1, 2, 110, false) -> 1   # 11 and 10
            line(0, 0, 0, 1, 3, 149, false) -> 2   # 14.9 and 15
            line(0, 0, 0, 1, 0, 0, false) -> 3     # 0 and 0
            lineOf(0, 0, 2) -> 10
            lineOf(0, 1, 2) -> 11
            lineOf(0, 2, 2) -> 15
            lineOf(0, 3, 2) -> 0
            """);
    }

    private static void halvesGoUp() {
        new Run("rounded to cents, halves up").rows("""
            heading(-1) -> 0
            rate(0, 0, 0, 4999, 0, 0, 9999) -> 0
            rate(0, 1, 0, 5000, 0, 0, 9999) -> 1
            declare(5, 5) -> 0
            line(0, 0, 0, 1, 0, 1, false) -> 0     # 0.4999
            line(0, 0, 1, 1, 0, 1, false) -> 1     # 0.5
            line(0, 0, 1, 1, 0, 2, false) -> 2     # 1
            line(0, 0, 1, 1, 0, 3, false) -> 3     # 1.5
            lineOf(0, 0, 2) -> 0
            lineOf(0, 1, 2) -> 1
            lineOf(0, 2, 2) -> 1
            lineOf(0, 3, 2) -> 2
            """);
    }

    private static void reducedAllOrNone() {
        new Run("(u - r) / u and r / u: none and all").rows("""
            heading(-1) -> 0
            rate(0, -1, 0, 10000, 0, 0, 9999) -> 0
            quota(0, 0, 1000, 1, 0, 9999) -> 0
            declare(5, 5) -> 0
            line(0, 0, 0, 1000, 0, 100000000, false) -> 0
            line(0, 0, 0, 1000, 0, 100000000, false) -> 1
            line(0, 0, 0, 1, 0, 7, false) -> 2
            lineOf(0, 0, 2) -> 10000               # all by the quota
            lineOf(0, 1, 2) -> 100000000           # all by the rate
            lineOf(0, 2, 2) -> 7
            """);
    }

    private static void roundedInTheEnd() {
        String start = """
            heading(-1) -> 0
            rate(0, -1, 0, 4999, 0, 0, 9999) -> 0
            declare(5, 5) -> 0
            line(0, 0, 0, 1000, 0, 1, false) -> 0
            """;
        new Run("exactly, and in the end rounded: under a half").rows(start).rows("""
            quota(0, 0, 499, 5001, 0, 9999) -> 0
            lineOf(0, 0, 1) -> 499
            lineOf(0, 0, 2) -> 0                   # 0.499998
            """);
        new Run("exactly, and in the end rounded: a half").rows(start).rows("""
            quota(0, 0, 500, 5001, 0, 9999) -> 0
            lineOf(0, 0, 1) -> 500
            lineOf(0, 0, 2) -> 1                   # 0.5
            """);
    }

    private static void quotaThatIsUsedUp() {
        new Run("a line's quota is the first one, though nothing is left of it").rows("""
            heading(-1) -> 0
            rate(0, -1, 0, 1000, 0, 0, 9999) -> 0
            quota(0, 0, 1, 0, 0, 9999) -> 0
            quota(0, 0, 9, 0, 0, 9999) -> 1
            declare(5, 5) -> 0
            line(0, 0, 0, 1, 0, 100, false) -> 0
            line(0, 0, 0, 1, 0, 100, false) -> 1
            accept(0) -> 10
            quotaLeft(0) -> 0
            quotaLeft(1) -> 9
            lineOf(0, 1, 1) -> 0
            """);
    }

    private static void lessOfUnitsAndLeft() {
        for (int units = 9; units <= 11; units++) {
            int reduced = Math.min(units, 10);
            new Run("r is its units or as many as are left, the less: " + units).rows(START).rows("""
            quota(0, 0, 10, 0, 0, 9999) -> 0
            line(0, 0, 0, %d, 0, 0, false) -> 0
            lineOf(0, 0, 1) -> %d
            accept(0) -> 0
            lineOf(0, 0, 1) -> %d
            quotaLeft(0) -> %d
            """.formatted(units, reduced, reduced, 10 - reduced));
        }
    }

    private static void goneForLinesBehind() {
        new Run("those are meant to be gone for the lines behind it").rows(START).rows("""
            quota(0, 0, 3, 0, 0, 9999) -> 0
            line(0, 0, 0, 2, 0, 100, false) -> 0
            line(0, 0, 1, 2, 0, 100, false) -> 1   # for another land
            line(0, 0, 0, 2, 0, 100, false) -> 2
            line(0, 0, 0, 2, 0, 100, false) -> 3
            lineOf(0, 3, 1) -> 0
            lineOf(0, 2, 1) -> 1
            lineOf(0, 1, 1) -> 0
            lineOf(0, 0, 1) -> 2
            quotaLeft(0) -> 3
            accept(0) -> 25
            quotaLeft(0) -> 0
            """);
    }

    private static void canBeAssessed() {
        new Run("it can be assessed if it has lines").rows("""
            heading(-1) -> 0
            rate(0, -1, 0, 1000, 0, 0, 9999) -> 0
            declare(5, 5) -> 0
            accept(0) -> NoSuchElementException
            line(0, 0, 0, 1, 0, 100, false) -> 0
            accept(0) -> 10
            """);
        new Run("and for each there is a class").rows("""
            heading(-1) -> 0
            note(0, 0, 0, 1) -> 0
            rate(0, -1, 0, 1000, 0, 0, 9999) -> 0
            declare(5, 5) -> 0
            fact(0, 0, 1) -> 0
            line(0, 0, 0, 1, 0, 100, false) -> 0
            lineOf(0, 0, 2) -> 10
            line(0, 1, 0, 1, 0, 100, false) -> 1
            lineOf(0, 0, 2) -> NoSuchElementException
            accept(0) -> NoSuchElementException
            fact(1, 0, 1) -> 0
            accept(0) -> 20
            """);
        new Run("and a rate").rows("""
            heading(-1) -> 0
            rate(0, 0, 0, 1000, 0, 5, 5) -> 0
            declare(5, 5) -> 0
            declare(6, 5) -> 1
            line(0, 0, 0, 1, 0, 100, false) -> 0
            line(1, 0, 0, 1, 0, 100, false) -> 0
            lineOf(0, 0, 2) -> 10
            lineOf(1, 0, 2) -> NoSuchElementException
            accept(1) -> NoSuchElementException
            line(0, 0, 1, 1, 0, 100, false) -> 1
            lineOf(0, 0, 2) -> NoSuchElementException
            accept(0) -> NoSuchElementException
            rate(0, 1, 0, 1000, 0, 5, 5) -> 1
            accept(0) -> 20
            """);
    }

    private static void partsOfADuty() {
        new Run("the part that goes: rounded down, more than before").rows(START).rows("""
            line(0, 1, 0, 3, 0, 110, true) -> 0    # 11 for 3 units: 3 2/3, 7 1/3, 11
            line(0, 1, 0, 1, 0, 0, true) -> 1      # 0 for a unit
            accept(0) -> 11
            release(1, 1) -> 3
            release(1, 1) -> 4
            release(1, 1) -> 4
            release(1, 1) -> 0
            release(1, 1) -> IllegalStateException
            books(0) -> 11
            """);
    }

    private static void lotsByTheirNumbers() {
        String start = START + """
            line(0, 1, 0, 2, 0, 200, true) -> 0
            line(0, 2, 0, 2, 0, 900, true) -> 1    # of another good
            line(0, 1, 0, 2, 0, 800, false) -> 2   # free
            line(0, 1, 0, 2, 0, 600, true) -> 3
            accept(0) -> 250
            """;
        new Run("from each as many as are left: all of the first").rows(start).rows("""
            release(1, 2) -> 20
            lot(0, 2) -> 2
            lot(3, 2) -> 0
            release(1, 1) -> 30                    # the first has none left
            lot(0, 2) -> 2
            lot(3, 2) -> 1
            """);
        new Run("from each as many as are left: one more").rows(start).rows("""
            release(1, 3) -> 50
            lot(0, 2) -> 2
            lot(1, 2) -> 0
            lot(2, 2) -> 0
            lot(3, 2) -> 1
            """);
    }
}
