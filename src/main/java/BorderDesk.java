import java.util.NoSuchElementException;

/**
 * A desk that brings goods over a border: it finds headings, duties and origins, keeps
 * declarations and lots, and books what is paid and paid back.
 *
 * <p>All rows are made with the object and used again, so that no call makes a new one.
 */
public final class BorderDesk {
    public static final int NONE = -1;

    private static final int GOODS = 16;
    private static final int LANDS = 8;
    private static final int DAYS = 10000;
    private static final int MINUTES = 1440;
    private static final int FACTS = 8;
    private static final int MATERIALS = 4;
    private static final int ZONES = 4;
    private static final int MOST_AMOUNT = 1000;
    private static final int MOST_LIMIT = 1000;
    private static final int MOST_VALUE = 1000000;
    private static final int MOST_CHARGE = 10000000;
    private static final int MOST_UNITS = 1000;
    private static final int MOST_QUOTA_UNITS = 100000;
    private static final int WHOLE = 10000;

    private final Tariff tariff;
    private final Rates rates;
    private final Quotas quotas;
    private final Origins origins;
    private final Declarations declarations;
    private final Assessor assessor;
    private final Lots lots;
    private final Ledger ledger;

    public BorderDesk() {
        tariff = new Tariff();
        rates = new Rates(tariff);
        quotas = new Quotas(tariff);
        origins = new Origins(tariff);
        declarations = new Declarations();
        assessor = new Assessor(tariff, rates, quotas, declarations);
        lots = new Lots();
        ledger = new Ledger();
    }

    public int heading(int parent) throws IllegalArgumentException, IllegalStateException {
        requireArgument(parent == NONE || isHeading(parent));
        requireState(tariff.headings < Tariff.MOST_HEADINGS);
        requireState(tariff.depthUnder(parent) <= Tariff.MOST_DEPTH);
        return tariff.addHeading(parent);
    }

    public int note(int heading, int kind, int fact, int amount)
            throws IllegalArgumentException, IllegalStateException {
        requireArgument(isHeading(heading) && isFact(fact));
        requireArgument(isWithin(kind, Tariff.NEEDS, Tariff.MAINLY));
        requireArgument(isWithin(amount, 1, MOST_AMOUNT));
        requireArgument(kind != Tariff.MAINLY || fact < MATERIALS);
        requireState(tariff.notes < Tariff.MOST_NOTES);
        return tariff.addNote(heading, kind, fact, amount);
    }

    public int fact(int good, int fact, int amount) throws IllegalArgumentException {
        requireArgument(isGood(good) && isFact(fact));
        requireArgument(isWithin(amount, 0, MOST_AMOUNT));
        int before = tariff.amounts[good][fact];
        tariff.amounts[good][fact] = amount;
        return before;
    }

    public int classify(int good) throws IllegalArgumentException {
        requireArgument(isGood(good));
        return tariff.classOf(good);
    }

    public int rate(int heading, int land, int kind, int a, int b, int from, int to)
            throws IllegalArgumentException, IllegalStateException {
        requireArgument(isHeading(heading) && (land == Rates.ALL_LANDS || isLand(land)));
        requireArgument(isWithin(kind, Rates.BY_VALUE, Rates.BOTH));
        requireArgument(isWithin(a, 0, WHOLE) && isWithin(b, 0, WHOLE));
        requireArgument(isDay(from) && isDay(to) && from <= to);
        requireState(rates.count < Rates.MOST);
        return rates.add(heading, land, kind, a, b, from, to);
    }

    public int rateFor(int heading, int land, int day) throws IllegalArgumentException {
        requireArgument(isHeading(heading) && isLand(land) && isDay(day));
        return rates.find(heading, land, day);
    }

    public int quota(int heading, int land, int units, int a, int from, int to)
            throws IllegalArgumentException, IllegalStateException {
        requireArgument(isHeading(heading) && isLand(land));
        requireArgument(isWithin(units, 1, MOST_QUOTA_UNITS) && isWithin(a, 0, WHOLE));
        requireArgument(isDay(from) && isDay(to) && from <= to);
        requireState(quotas.count < Quotas.MOST);
        return quotas.add(heading, land, units, a, from, to);
    }

    public int quotaLeft(int quota) throws IllegalArgumentException {
        requireArgument(isBelow(quota, quotas.count));
        return quotas.left[quota];
    }

    public int part(int good, int part, int value, int land)
            throws IllegalArgumentException, IllegalStateException {
        requireArgument(isGood(good) && isGood(part) && isLand(land));
        requireArgument(isWithin(value, 0, MOST_VALUE));
        requireArgument(!origins.wouldComeRound(good, part));
        requireState(origins.parts[good] < Origins.MOST_PARTS);
        return origins.addPart(good, part, value, land);
    }

    public void zone(int zone, int lands) throws IllegalArgumentException {
        requireArgument(isBelow(zone, ZONES));
        requireArgument(isBelow(lands, 1 << LANDS));
        origins.zoneLands[zone] = lands;
    }

    public void rule(int heading, int kind, int limit) throws IllegalArgumentException {
        requireArgument(isHeading(heading));
        requireArgument(kind == Tariff.CHANGE || kind == Tariff.SHARE);
        requireArgument(isWithin(limit, 0, MOST_LIMIT));
        tariff.ruleKind[heading] = kind;
        tariff.ruleLimit[heading] = limit;
    }

    public boolean madeIn(int good, int zone) throws IllegalArgumentException {
        requireArgument(isGood(good) && isBelow(zone, ZONES));
        return origins.isMadeIn(good, zone);
    }

    public int declare(int day, int minute) throws IllegalArgumentException, IllegalStateException {
        requireArgument(isDay(day));
        requireArgument(isBelow(minute, MINUTES));
        requireState(declarations.count < Declarations.MOST);
        return declarations.add(day, minute);
    }

    public int line(int declaration, int good, int land, int units, int kilograms, int price, boolean held)
            throws IllegalArgumentException, IllegalStateException {
        requireArgument(isDeclaration(declaration) && isGood(good) && isLand(land));
        requireArgument(Declarations.isInBounds(Declarations.UNITS, units));
        requireArgument(Declarations.isInBounds(Declarations.KILOGRAMS, kilograms));
        requireArgument(Declarations.isInBounds(Declarations.PRICE, price));
        requireState(!declarations.accepted[declaration]);
        requireState(declarations.lines[declaration] < Declarations.MOST_LINES);
        return declarations.addLine(declaration, good, land, units, kilograms, price, held);
    }

    public void charge(int declaration, int by, int cents)
            throws IllegalArgumentException, IllegalStateException {
        requireArgument(isDeclaration(declaration));
        requireArgument(isBelow(by, Declarations.CHARGES));
        requireArgument(isWithin(cents, 0, MOST_CHARGE));
        requireState(!declarations.accepted[declaration]);
        declarations.charges[declaration][by] = cents;
    }

    public long lineOf(int declaration, int line, int what)
            throws IllegalArgumentException, NoSuchElementException {
        requireArgument(isLine(declaration, line));
        requireArgument(isWithin(what, 0, 2));
        if (what == 0) {
            return assessor.valueOf(declaration, line);
        }
        if (declarations.accepted[declaration]) {
            int row = Declarations.rowOf(declaration, line);
            return what == 1 ? declarations.reduced[row] : declarations.duty[row];
        }
        requireElement(assessor.canAssess(declaration));
        assessor.assess(declaration);
        return what == 1 ? assessor.reduced[line] : assessor.duty[line];
    }

    public long accept(int declaration)
            throws IllegalArgumentException, IllegalStateException, NoSuchElementException,
                    UnsupportedOperationException {
        requireArgument(isDeclaration(declaration));
        requireState(!declarations.accepted[declaration]);
        requireState(!declarations.isLaterAccepted(declaration));
        requireElement(assessor.canAssess(declaration));
        requireRoom(lots.count + declarations.lines[declaration]);
        assessor.assess(declaration);
        assessor.book(declaration);
        declarations.accepted[declaration] = true;
        makeLots(declaration);
        return declarations.dutyOfAll(declaration);
    }

    public long amend(int declaration, int line, int field, int value)
            throws IllegalArgumentException, IllegalStateException, NoSuchElementException {
        requireArgument(isLine(declaration, line));
        requireArgument(Declarations.isInBounds(field, value));
        requireState(declarations.accepted[declaration]);
        requireState(!hasGoneUnits(declaration));
        requireElement(assessor.canAssess(declaration));
        long before = declarations.dutyOfAll(declaration);
        declarations.setField(Declarations.rowOf(declaration, line), field, value);
        assessor.assessAnew(declaration);
        assessor.book(declaration);
        changeLots(declaration);
        return declarations.dutyOfAll(declaration) - before;
    }

    public long release(int good, int units) throws IllegalArgumentException, IllegalStateException {
        requireArgument(isGood(good));
        requireArgument(isWithin(units, 1, MOST_UNITS));
        requireState(lots.unitsLeft(good, true) >= units);
        long parts = lots.takeUnits(good, units, true);
        ledger.paid += parts;
        ledger.released[good] += units;
        return parts;
    }

    public long export(int good, int units) throws IllegalArgumentException, IllegalStateException {
        requireArgument(isGood(good));
        requireArgument(isWithin(units, 1, MOST_UNITS));
        requireState(lots.unitsLeft(good, false) >= units);
        long parts = lots.takeUnits(good, units, false);
        ledger.paidBack += parts;
        return parts;
    }

    public int work(int good, int units, int other, int made)
            throws IllegalArgumentException, IllegalStateException, UnsupportedOperationException {
        requireArgument(isGood(good) && isGood(other) && good != other);
        requireArgument(1 <= made && made <= units && units <= MOST_UNITS);
        requireState(lots.unitsLeft(good, true) >= units);
        requireRoom(lots.count + 1);
        long parts = lots.takeUnits(good, units, true);
        ledger.worked[good] += units;
        ledger.lost[good] += units - made;
        return lots.add(other, made, parts, true, true);
    }

    public long lot(int lot, int what) throws IllegalArgumentException {
        requireArgument(isBelow(lot, lots.count));
        requireArgument(isWithin(what, 0, 4));
        switch (what) {
            case 0: return lots.good[lot];
            case 1: return lots.units[lot];
            case 2: return lots.gone[lot];
            case 3: return lots.duty[lot];
            default: return lots.held[lot] ? 1 : 0;
        }
    }

    public long account(int good, int what) throws IllegalArgumentException {
        requireArgument(isGood(good));
        requireArgument(isWithin(what, 0, 5));
        switch (what) {
            case 0: return lots.heldUnitsThatCame(good, false);
            case 1: return lots.heldUnitsThatCame(good, true);
            case 2: return ledger.released[good];
            case 3: return ledger.worked[good];
            case 4: return ledger.lost[good];
            default: return lots.unitsLeft(good, true);
        }
    }

    public long books(int what) throws IllegalArgumentException {
        requireArgument(isWithin(what, 0, 1));
        return what == 0 ? ledger.paid : ledger.paidBack;
    }

    private void makeLots(int declaration) {
        declarations.firstLot[declaration] = lots.count;
        for (int line = 0; line < declarations.lines[declaration]; line++) {
            int row = Declarations.rowOf(declaration, line);
            boolean held = declarations.held[row];
            long duty = declarations.duty[row];
            lots.add(declarations.good[row], declarations.units[row], duty, held, false);
            if (!held) {
                ledger.paid += duty;
            }
        }
    }

    private void changeLots(int declaration) {
        for (int line = 0; line < declarations.lines[declaration]; line++) {
            int row = Declarations.rowOf(declaration, line);
            int lot = declarations.firstLot[declaration] + line;
            if (!lots.held[lot]) {
                ledger.paid += declarations.duty[row] - lots.duty[lot];
            }
            lots.units[lot] = declarations.units[row];
            lots.duty[lot] = declarations.duty[row];
        }
    }

    private boolean hasGoneUnits(int declaration) {
        for (int line = 0; line < declarations.lines[declaration]; line++) {
            if (lots.gone[declarations.firstLot[declaration] + line] > 0) {
                return true;
            }
        }
        return false;
    }

    private boolean isHeading(int number) {
        return isBelow(number, tariff.headings);
    }

    private boolean isDeclaration(int number) {
        return isBelow(number, declarations.count);
    }

    private boolean isLine(int declaration, int number) {
        return isDeclaration(declaration) && isBelow(number, declarations.lines[declaration]);
    }

    private static boolean isGood(int number) {
        return isBelow(number, GOODS);
    }

    private static boolean isLand(int number) {
        return isBelow(number, LANDS);
    }

    private static boolean isDay(int number) {
        return isBelow(number, DAYS);
    }

    private static boolean isFact(int number) {
        return isBelow(number, FACTS);
    }

    private static boolean isBelow(int number, int count) {
        return 0 <= number && number < count;
    }

    private static boolean isWithin(int number, int least, int most) {
        return least <= number && number <= most;
    }

    private static void requireArgument(boolean right) {
        if (!right) {
            throw new IllegalArgumentException();
        }
    }

    private static void requireState(boolean right) {
        if (!right) {
            throw new IllegalStateException();
        }
    }

    private static void requireElement(boolean found) {
        if (!found) {
            throw new NoSuchElementException();
        }
    }

    private static void requireRoom(int lotsThen) {
        if (lotsThen > Lots.MOST) {
            throw new UnsupportedOperationException();
        }
    }

    /** The headings with their notes and rules, and the amounts that goods have of the facts. */
    private static final class Tariff {
        static final int MOST_HEADINGS = 24;
        static final int MOST_DEPTH = 5;
        static final int MOST_NOTES = 40;
        static final int NEEDS = 0;
        static final int BARS = 1;
        static final int MAINLY = 2;
        static final int CHANGE = 0;
        static final int SHARE = 1;

        int headings;
        final int[] parent = new int[MOST_HEADINGS];
        final int[] depth = new int[MOST_HEADINGS];
        final int[] ruleKind = new int[MOST_HEADINGS];
        final int[] ruleLimit = new int[MOST_HEADINGS];
        int notes;
        final int[] noteHeading = new int[MOST_NOTES];
        final int[] noteKind = new int[MOST_NOTES];
        final int[] noteFact = new int[MOST_NOTES];
        final int[] noteAmount = new int[MOST_NOTES];
        final int[][] amounts = new int[GOODS][FACTS];
        private final boolean[] fits = new boolean[MOST_HEADINGS];
        private final int[] share = new int[MOST_HEADINGS];

        int depthUnder(int upper) {
            return upper == NONE ? 0 : depth[upper] + 1;
        }

        int addHeading(int upper) {
            int number = headings;
            parent[number] = upper;
            depth[number] = depthUnder(upper);
            ruleKind[number] = NONE;
            headings++;
            return number;
        }

        int addNote(int heading, int kind, int fact, int amount) {
            int number = notes;
            noteHeading[number] = heading;
            noteKind[number] = kind;
            noteFact[number] = fact;
            noteAmount[number] = amount;
            notes++;
            return number;
        }

        int classOf(int good) {
            judgeByOwnNotes(good);
            int best = NONE;
            // a parent is always earlier, so what is inherited from it is whole already
            for (int heading = 0; heading < headings; heading++) {
                inheritFromParent(heading);
                if (fits[heading] && (best == NONE || isAsGood(heading, best))) {
                    best = heading;
                }
            }
            return best;
        }

        private void judgeByOwnNotes(int good) {
            for (int heading = 0; heading < headings; heading++) {
                fits[heading] = true;
                share[heading] = 0;
            }
            int greatest = greatestMaterial(good);
            for (int note = 0; note < notes; note++) {
                int heading = noteHeading[note];
                int amount = amounts[good][noteFact[note]];
                if (!holds(note, amount, greatest)) {
                    fits[heading] = false;
                }
                if (noteKind[note] == MAINLY) {
                    share[heading] = Math.max(share[heading], amount);
                }
            }
        }

        private void inheritFromParent(int heading) {
            int upper = parent[heading];
            if (upper != NONE) {
                fits[heading] = fits[heading] && fits[upper];
                share[heading] = Math.max(share[heading], share[upper]);
            }
        }

        private boolean isAsGood(int heading, int best) {
            if (depth[heading] != depth[best]) {
                return depth[heading] > depth[best];
            }
            return share[heading] >= share[best];
        }

        private boolean holds(int note, int amount, int greatest) {
            switch (noteKind[note]) {
                case NEEDS: return amount >= noteAmount[note];
                case BARS: return amount < noteAmount[note];
                default: return amount >= noteAmount[note] && amount >= greatest;
            }
        }

        private int greatestMaterial(int good) {
            int greatest = 0;
            for (int material = 0; material < MATERIALS; material++) {
                greatest = Math.max(greatest, amounts[good][material]);
            }
            return greatest;
        }

        boolean isSameOrAbove(int upper, int heading) {
            int at = heading;
            for (int step = 0; step <= MOST_DEPTH && at != NONE; step++) {
                if (at == upper) {
                    return true;
                }
                at = parent[at];
            }
            return false;
        }

        /** The heading whose rule counts for a heading: itself or the nearest above, or NONE. */
        int headingWithRule(int heading) {
            int at = heading;
            for (int step = 0; step <= MOST_DEPTH && at != NONE; step++) {
                if (ruleKind[at] != NONE) {
                    return at;
                }
                at = parent[at];
            }
            return NONE;
        }
    }

    private static final class Rates {
        static final int MOST = 40;
        static final int ALL_LANDS = -1;
        static final int BY_VALUE = 0;
        static final int BY_KILOGRAM = 1;
        static final int GREATER = 2;
        static final int BOTH = 3;

        private final Tariff tariff;
        int count;
        private final int[] headingOf = new int[MOST];
        private final int[] landOf = new int[MOST];
        private final int[] kindOf = new int[MOST];
        private final int[] partOfValue = new int[MOST];
        private final int[] centsPerKilogram = new int[MOST];
        private final int[] firstDay = new int[MOST];
        private final int[] lastDay = new int[MOST];

        Rates(Tariff tariff) {
            this.tariff = tariff;
        }

        int add(int heading, int land, int kind, int a, int b, int from, int to) {
            int number = count;
            headingOf[number] = heading;
            landOf[number] = land;
            kindOf[number] = kind;
            partOfValue[number] = a;
            centsPerKilogram[number] = b;
            firstDay[number] = from;
            lastDay[number] = to;
            count++;
            return number;
        }

        int find(int heading, int land, int day) {
            int at = heading;
            for (int step = 0; step <= Tariff.MOST_DEPTH && at != NONE; step++) {
                int found = lastOwn(at, land, day);
                if (found == NONE) {
                    found = lastOwn(at, ALL_LANDS, day);
                }
                if (found != NONE) {
                    return found;
                }
                at = tariff.parent[at];
            }
            return NONE;
        }

        private int lastOwn(int heading, int land, int day) {
            for (int number = count - 1; number >= 0; number--) {
                if (headingOf[number] == heading && landOf[number] == land
                        && isWithin(day, firstDay[number], lastDay[number])) {
                    return number;
                }
            }
            return NONE;
        }

        /** The duty by a rate alone, in ten-thousandths of a cent, so that nothing is rounded. */
        long exactDuty(int number, long value, long kilograms) {
            long byValue = partOfValue[number] * value;
            long byKilogram = centsPerKilogram[number] * kilograms * WHOLE;
            switch (kindOf[number]) {
                case BY_VALUE: return byValue;
                case BY_KILOGRAM: return byKilogram;
                case GREATER: return Math.max(byValue, byKilogram);
                default: return byValue + byKilogram;
            }
        }
    }

    private static final class Quotas {
        static final int MOST = 8;

        private final Tariff tariff;
        int count;
        final int[] left = new int[MOST];
        final int[] partOfValue = new int[MOST];
        private final int[] headingOf = new int[MOST];
        private final int[] landOf = new int[MOST];
        private final int[] firstDay = new int[MOST];
        private final int[] lastDay = new int[MOST];

        Quotas(Tariff tariff) {
            this.tariff = tariff;
        }

        int add(int heading, int land, int units, int a, int from, int to) {
            int number = count;
            headingOf[number] = heading;
            landOf[number] = land;
            left[number] = units;
            partOfValue[number] = a;
            firstDay[number] = from;
            lastDay[number] = to;
            count++;
            return number;
        }

        int find(int heading, int land, int day) {
            for (int number = 0; number < count; number++) {
                if (landOf[number] == land && isWithin(day, firstDay[number], lastDay[number])
                        && tariff.isSameOrAbove(headingOf[number], heading)) {
                    return number;
                }
            }
            return NONE;
        }
    }

    /** The parts of goods and the lands of zones. Sets of goods and of lands are bits of a number. */
    private static final class Origins {
        static final int MOST_PARTS = 5;

        private final Tariff tariff;
        final int[] zoneLands = new int[ZONES];
        final int[] parts = new int[GOODS];
        private final int[][] partGood = new int[GOODS][MOST_PARTS];
        private final int[][] partValue = new int[GOODS][MOST_PARTS];
        private final int[][] partLand = new int[GOODS][MOST_PARTS];
        /** For each good its parts, the parts of those, and so on. */
        private final int[] inside = new int[GOODS];

        Origins(Tariff tariff) {
            this.tariff = tariff;
        }

        boolean wouldComeRound(int good, int part) {
            return good == part || has(inside[part], good);
        }

        int addPart(int good, int part, int value, int land) {
            int number = parts[good];
            partGood[good][number] = part;
            partValue[good][number] = value;
            partLand[good][number] = land;
            parts[good]++;
            int more = inside[part] | 1 << part;
            for (int outer = 0; outer < GOODS; outer++) {
                if (outer == good || has(inside[outer], good)) {
                    inside[outer] |= more;
                }
            }
            return parts[good];
        }

        /**
         * A part has always fewer goods inside than what it is a part of: by that order each
         * good is judged once and behind its parts, however often they come in.
         */
        boolean isMadeIn(int good, int zone) {
            int asked = inside[good] | 1 << good;
            int made = 0;
            for (int size = 0; size <= Integer.bitCount(inside[good]); size++) {
                for (int each = 0; each < GOODS; each++) {
                    if (has(asked, each) && Integer.bitCount(inside[each]) == size
                            && meetsRule(each, zone, made)) {
                        made |= 1 << each;
                    }
                }
            }
            return has(made, good);
        }

        private boolean meetsRule(int good, int zone, int made) {
            int own = parts[good] == 0 ? NONE : tariff.classOf(good);
            int ruling = own == NONE ? NONE : tariff.headingWithRule(own);
            if (ruling == NONE) {
                return false;
            }
            if (tariff.ruleKind[ruling] == Tariff.CHANGE) {
                return meetsChange(good, zone, made, own);
            }
            return meetsShare(good, zone, made, tariff.ruleLimit[ruling]);
        }

        private boolean meetsChange(int good, int zone, int made, int own) {
            for (int number = 0; number < parts[good]; number++) {
                if (isForeign(good, number, zone, made)
                        && tariff.classOf(partGood[good][number]) == own) {
                    return false;
                }
            }
            return true;
        }

        private boolean meetsShare(int good, int zone, int made, int limit) {
            long foreign = 0;
            long all = 0;
            for (int number = 0; number < parts[good]; number++) {
                int value = partValue[good][number];
                all += value;
                if (isForeign(good, number, zone, made)) {
                    foreign += value;
                }
            }
            return MOST_LIMIT * foreign <= limit * all;
        }

        private boolean isForeign(int good, int number, int zone, int made) {
            int part = partGood[good][number];
            return !has(zoneLands[zone], partLand[good][number])
                    || parts[part] > 0 && !has(made, part);
        }

        private static boolean has(int set, int number) {
            return (set >> number & 1) == 1;
        }
    }

    /** The declarations; their lines are kept in rows, four for each declaration. */
    private static final class Declarations {
        static final int MOST = 12;
        static final int MOST_LINES = 4;
        static final int CHARGES = 2;
        static final int BY_KILOGRAMS = 0;
        static final int BY_PRICES = 1;
        static final int UNITS = 0;
        static final int KILOGRAMS = 1;
        static final int PRICE = 2;
        private static final int MOST_KILOGRAMS = 1000000;
        private static final int MOST_PRICE = 100000000;

        int count;
        final int[] day = new int[MOST];
        private final int[] minute = new int[MOST];
        final int[] lines = new int[MOST];
        final int[][] charges = new int[MOST][CHARGES];
        final boolean[] accepted = new boolean[MOST];
        final int[] firstLot = new int[MOST];
        final int[] good = new int[MOST * MOST_LINES];
        final int[] land = new int[MOST * MOST_LINES];
        final int[] units = new int[MOST * MOST_LINES];
        final int[] kilograms = new int[MOST * MOST_LINES];
        final int[] price = new int[MOST * MOST_LINES];
        final boolean[] held = new boolean[MOST * MOST_LINES];
        final int[] quotaTaken = new int[MOST * MOST_LINES];
        final int[] reduced = new int[MOST * MOST_LINES];
        final long[] duty = new long[MOST * MOST_LINES];

        static int rowOf(int declaration, int line) {
            return declaration * MOST_LINES + line;
        }

        static boolean isInBounds(int field, int value) {
            switch (field) {
                case UNITS: return isWithin(value, 1, MOST_UNITS);
                case KILOGRAMS: return isWithin(value, 0, MOST_KILOGRAMS);
                case PRICE: return isWithin(value, 0, MOST_PRICE);
                default: return false;
            }
        }

        int add(int onDay, int atMinute) {
            int number = count;
            day[number] = onDay;
            minute[number] = atMinute;
            count++;
            return number;
        }

        int addLine(int declaration, int ofGood, int ofLand, int ofUnits, int ofKilograms, int ofPrice,
                boolean toBeHeld) {
            int number = lines[declaration];
            int row = rowOf(declaration, number);
            good[row] = ofGood;
            land[row] = ofLand;
            units[row] = ofUnits;
            kilograms[row] = ofKilograms;
            price[row] = ofPrice;
            held[row] = toBeHeld;
            lines[declaration]++;
            return number;
        }

        void setField(int row, int field, int value) {
            switch (field) {
                case UNITS: units[row] = value; break;
                case KILOGRAMS: kilograms[row] = value; break;
                default: price[row] = value; break;
            }
        }

        boolean isLaterAccepted(int declaration) {
            for (int other = 0; other < count; other++) {
                if (accepted[other] && isLater(other, declaration)) {
                    return true;
                }
            }
            return false;
        }

        private boolean isLater(int one, int other) {
            if (day[one] != day[other]) {
                return day[one] > day[other];
            }
            if (minute[one] != minute[other]) {
                return minute[one] > minute[other];
            }
            return one > other;
        }

        long dutyOfAll(int declaration) {
            long sum = 0;
            for (int line = 0; line < lines[declaration]; line++) {
                sum += duty[rowOf(declaration, line)];
            }
            return sum;
        }
    }

    /**
     * Finds values, reduced units and duties of one declaration at a time. Nothing is changed
     * outside until they are booked, so that lines can be asked about before they are accepted.
     */
    private static final class Assessor {
        private static final int LINES = Declarations.MOST_LINES;

        private final Tariff tariff;
        private final Rates rates;
        private final Quotas quotas;
        private final Declarations declarations;
        final int[] reduced = new int[LINES];
        final long[] duty = new long[LINES];
        private final long[] value = new long[LINES];
        private final int[] rateFound = new int[LINES];
        private final int[] quotaFound = new int[LINES];
        private final int[] left = new int[Quotas.MOST];
        private final long[] weight = new long[LINES];
        private final long[] remainder = new long[LINES];

        Assessor(Tariff tariff, Rates rates, Quotas quotas, Declarations declarations) {
            this.tariff = tariff;
            this.rates = rates;
            this.quotas = quotas;
            this.declarations = declarations;
        }

        /** Whether a declaration can be assessed; finds the rates and quotas of its lines. */
        boolean canAssess(int declaration) {
            int lines = declarations.lines[declaration];
            int day = declarations.day[declaration];
            for (int line = 0; line < lines; line++) {
                int row = Declarations.rowOf(declaration, line);
                int land = declarations.land[row];
                int own = tariff.classOf(declarations.good[row]);
                rateFound[line] = own == NONE ? NONE : rates.find(own, land, day);
                if (rateFound[line] == NONE) {
                    return false;
                }
                quotaFound[line] = quotas.find(own, land, day);
            }
            return lines > 0;
        }

        /** To be called behind canAssess(), as are assessAnew() and book(). */
        void assess(int declaration) {
            copyQuotasLeft();
            for (int line = 0; line < declarations.lines[declaration]; line++) {
                reduced[line] = 0;
                takeMore(line, declarations.units[Declarations.rowOf(declaration, line)]);
            }
            findDuties(declaration);
        }

        /** As assess(), but what the lines took of their quotas before stays theirs as far as it can. */
        void assessAnew(int declaration) {
            copyQuotasLeft();
            for (int line = 0; line < declarations.lines[declaration]; line++) {
                int row = Declarations.rowOf(declaration, line);
                reduced[line] = declarations.reduced[row];
                giveBack(line, declarations.quotaTaken[row], reduced[line] - declarations.units[row]);
            }
            for (int line = 0; line < declarations.lines[declaration]; line++) {
                int row = Declarations.rowOf(declaration, line);
                if (quotaFound[line] != declarations.quotaTaken[row]) {
                    giveBack(line, declarations.quotaTaken[row], reduced[line]);
                }
                takeMore(line, declarations.units[row]);
            }
            findDuties(declaration);
        }

        void book(int declaration) {
            for (int line = 0; line < declarations.lines[declaration]; line++) {
                int row = Declarations.rowOf(declaration, line);
                declarations.quotaTaken[row] = quotaFound[line];
                declarations.reduced[row] = reduced[line];
                declarations.duty[row] = duty[line];
            }
            System.arraycopy(left, 0, quotas.left, 0, Quotas.MOST);
        }

        long valueOf(int declaration, int line) {
            findValues(declaration);
            return value[line];
        }

        private void copyQuotasLeft() {
            System.arraycopy(quotas.left, 0, left, 0, Quotas.MOST);
        }

        private void takeMore(int line, int units) {
            int quota = quotaFound[line];
            if (quota != NONE) {
                int more = Math.min(units - reduced[line], left[quota]);
                reduced[line] += more;
                left[quota] -= more;
            }
        }

        private void giveBack(int line, int quota, int units) {
            if (quota != NONE && units > 0) {
                reduced[line] -= units;
                left[quota] += units;
            }
        }

        private void findDuties(int declaration) {
            findValues(declaration);
            for (int line = 0; line < declarations.lines[declaration]; line++) {
                duty[line] = dutyOf(line, Declarations.rowOf(declaration, line));
            }
        }

        private long dutyOf(int line, int row) {
            long units = declarations.units[row];
            long whole = rates.exactDuty(rateFound[line], value[line], declarations.kilograms[row]);
            int quota = quotaFound[line];
            long low = quota == NONE ? 0 : quotas.partOfValue[quota] * value[line];
            long sum = (units - reduced[line]) * whole + reduced[line] * low;
            return roundHalvesUp(sum, units * WHOLE);
        }

        private static long roundHalvesUp(long dividend, long divisor) {
            return divisor <= 0 ? 0 : (2 * dividend + divisor) / (2 * divisor);
        }

        private void findValues(int declaration) {
            for (int line = 0; line < declarations.lines[declaration]; line++) {
                value[line] = declarations.price[Declarations.rowOf(declaration, line)];
            }
            spread(declaration, Declarations.BY_KILOGRAMS, declarations.kilograms);
            spread(declaration, Declarations.BY_PRICES, declarations.price);
        }

        private void spread(int declaration, int by, int[] weights) {
            int lines = declarations.lines[declaration];
            long cents = declarations.charges[declaration][by];
            long sum = findWeights(declaration, weights);
            long over = cents;
            for (int line = 0; line < lines && sum > 0; line++) {
                long product = cents * weight[line];
                value[line] += product / sum;
                over -= product / sum;
                remainder[line] = product % sum;
            }
            for (int cent = 0; cent < lines && cent < over; cent++) {
                int line = greatestRemainder(lines);
                value[line]++;
                // less than any remainder, so that no line gets a second cent
                remainder[line] = -1;
            }
        }

        private long findWeights(int declaration, int[] weights) {
            int lines = declarations.lines[declaration];
            long sum = 0;
            for (int line = 0; line < lines; line++) {
                weight[line] = weights[Declarations.rowOf(declaration, line)];
                sum += weight[line];
            }
            if (sum > 0) {
                return sum;
            }
            for (int line = 0; line < lines; line++) {
                weight[line] = 1;
            }
            return lines;
        }

        private int greatestRemainder(int lines) {
            int greatest = 0;
            for (int line = 1; line < lines; line++) {
                if (remainder[line] > remainder[greatest]) {
                    greatest = line;
                }
            }
            return greatest;
        }
    }

    private static final class Lots {
        static final int MOST = 40;

        int count;
        final int[] good = new int[MOST];
        final int[] units = new int[MOST];
        final int[] gone = new int[MOST];
        final long[] duty = new long[MOST];
        final boolean[] held = new boolean[MOST];
        private final boolean[] byWorking = new boolean[MOST];

        int add(int ofGood, int ofUnits, long ofDuty, boolean isHeld, boolean isByWorking) {
            int number = count;
            good[number] = ofGood;
            units[number] = ofUnits;
            duty[number] = ofDuty;
            held[number] = isHeld;
            byWorking[number] = isByWorking;
            count++;
            return number;
        }

        int unitsLeft(int ofGood, boolean ofHeld) {
            int sum = 0;
            for (int number = 0; number < count; number++) {
                if (good[number] == ofGood && held[number] == ofHeld) {
                    sum += units[number] - gone[number];
                }
            }
            return sum;
        }

        int heldUnitsThatCame(int ofGood, boolean cameByWorking) {
            int sum = 0;
            for (int number = 0; number < count; number++) {
                if (good[number] == ofGood && held[number] && byWorking[number] == cameByWorking) {
                    sum += units[number];
                }
            }
            return sum;
        }

        /** Takes units that are known to be left; the parts of the duties that go with them. */
        long takeUnits(int ofGood, int wanted, boolean ofHeld) {
            long parts = 0;
            int missing = wanted;
            for (int number = 0; number < count && missing > 0; number++) {
                if (good[number] == ofGood && held[number] == ofHeld) {
                    int taken = Math.min(missing, units[number] - gone[number]);
                    long before = dutyGone(number);
                    gone[number] += taken;
                    missing -= taken;
                    parts += dutyGone(number) - before;
                }
            }
            return parts;
        }

        private long dutyGone(int number) {
            return units[number] <= 0 ? 0 : duty[number] * gone[number] / units[number];
        }
    }

    /** What was paid and paid back, and for each good what became of its held units. */
    private static final class Ledger {
        long paid;
        long paidBack;
        final int[] released = new int[GOODS];
        final int[] worked = new int[GOODS];
        final int[] lost = new int[GOODS];
    }
}
