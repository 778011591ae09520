import java.math.BigInteger;
import java.util.ArrayList;
import java.util.HashMap;
import java.util.List;
import java.util.Map;
import java.util.NoSuchElementException;

/**
 * The document's words written down a second time, as plainly as they stand and without a thought
 * for speed or room, so that the program can be compared with it.
 */
final class Model {
    private record Heading(int number, Heading parent) {
        int depth() {
            return parent == null ? 0 : parent.depth() + 1;
        }

        List<Heading> selfAndAbove() {
            List<Heading> all = new ArrayList<>();
            for (Heading at = this; at != null; at = at.parent) {
                all.add(at);
            }
            return all;
        }
    }

    private record Note(Heading heading, int kind, int fact, int amount) { }

    private record Rate(int number, Heading heading, int land, int kind, int a, int b, int from, int to) { }

    private record Part(int good, int value, int land) { }

    private record Rule(int kind, int limit) { }

    private static final class Quota {
        Heading heading;
        int land;
        int left;
        int a;
        int from;
        int to;
    }

    private static final class Line {
        int good;
        int land;
        final int[] fields = new int[3];
        boolean held;
        Quota quota;
        int reduced;
        long duty;
        Lot lot;
    }

    private static final class Declaration {
        int number;
        int day;
        int minute;
        boolean accepted;
        final List<Line> lines = new ArrayList<>();
        final int[] charges = new int[2];
    }

    private static final class Lot {
        int good;
        int units;
        int gone;
        long duty;
        boolean held;
        boolean worked;
    }

    private final List<Heading> headings = new ArrayList<>();
    private final List<Note> notes = new ArrayList<>();
    private final List<Rate> rates = new ArrayList<>();
    private final List<Quota> quotas = new ArrayList<>();
    private final Map<Heading, Rule> rules = new HashMap<>();
    private final List<List<Part>> parts = new ArrayList<>();
    private final int[][] facts = new int[16][8];
    private final int[] zones = new int[4];
    private final List<Declaration> declarations = new ArrayList<>();
    private final List<Lot> lots = new ArrayList<>();
    private final long[] released = new long[16];
    private final long[] worked = new long[16];
    private final long[] lost = new long[16];
    private long paid;
    private long paidBack;

    Model() {
        for (int good = 0; good < 16; good++) {
            parts.add(new ArrayList<>());
        }
    }

    public int heading(int parent) {
        argument(parent >= -1 && parent < headings.size());
        Heading above = parent == -1 ? null : headings.get(parent);
        Heading made = new Heading(headings.size(), above);
        state(headings.size() < 24 && made.depth() <= 5);
        headings.add(made);
        return made.number;
    }

    public int note(int heading, int kind, int fact, int amount) {
        argument(in(heading, headings.size()) && in(fact, 8) && in(kind, 3) && amount >= 1 && amount <= 1000);
        argument(kind != 2 || fact <= 3);
        state(notes.size() < 40);
        notes.add(new Note(headings.get(heading), kind, fact, amount));
        return notes.size() - 1;
    }

    public int fact(int good, int fact, int amount) {
        argument(in(good, 16) && in(fact, 8) && in(amount, 1001));
        int was = facts[good][fact];
        facts[good][fact] = amount;
        return was;
    }

    public int classify(int good) {
        argument(in(good, 16));
        Heading found = classOf(good);
        return found == null ? -1 : found.number;
    }

    public int rate(int heading, int land, int kind, int a, int b, int from, int to) {
        argument(in(heading, headings.size()) && in(land + 1, 9) && in(kind, 4) && in(a, 10001) && in(b, 10001));
        argument(in(from, 10000) && in(to, 10000) && from <= to);
        state(rates.size() < 40);
        rates.add(new Rate(rates.size(), headings.get(heading), land, kind, a, b, from, to));
        return rates.size() - 1;
    }

    public int rateFor(int heading, int land, int day) {
        argument(in(heading, headings.size()) && in(land, 8) && in(day, 10000));
        Rate found = theRate(headings.get(heading), land, day);
        return found == null ? -1 : found.number;
    }

    public int quota(int heading, int land, int units, int a, int from, int to) {
        argument(in(heading, headings.size()) && in(land, 8) && units >= 1 && units <= 100000 && in(a, 10001));
        argument(in(from, 10000) && in(to, 10000) && from <= to);
        state(quotas.size() < 8);
        Quota made = new Quota();
        made.heading = headings.get(heading);
        made.land = land;
        made.left = units;
        made.a = a;
        made.from = from;
        made.to = to;
        quotas.add(made);
        return quotas.size() - 1;
    }

    public int quotaLeft(int quota) {
        argument(in(quota, quotas.size()));
        return quotas.get(quota).left;
    }

    public int part(int good, int part, int value, int land) {
        argument(in(good, 16) && in(part, 16) && in(value, 1000001) && in(land, 8));
        argument(good != part && !contains(part, good));
        state(parts.get(good).size() < 5);
        parts.get(good).add(new Part(part, value, land));
        return parts.get(good).size();
    }

    public void zone(int zone, int lands) {
        argument(in(zone, 4) && in(lands, 256));
        zones[zone] = lands;
    }

    public void rule(int heading, int kind, int limit) {
        argument(in(heading, headings.size()) && in(kind, 2) && in(limit, 1001));
        rules.put(headings.get(heading), new Rule(kind, limit));
    }

    public boolean madeIn(int good, int zone) {
        argument(in(good, 16) && in(zone, 4));
        return isMade(good, zone);
    }

    public int declare(int day, int minute) {
        argument(in(day, 10000) && in(minute, 1440));
        state(declarations.size() < 12);
        Declaration made = new Declaration();
        made.number = declarations.size();
        made.day = day;
        made.minute = minute;
        declarations.add(made);
        return made.number;
    }

    public int line(int declaration, int good, int land, int units, int kilograms, int price, boolean held) {
        argument(in(declaration, declarations.size()) && in(good, 16) && in(land, 8));
        argument(fieldFits(0, units) && fieldFits(1, kilograms) && fieldFits(2, price));
        Declaration of = declarations.get(declaration);
        state(!of.accepted && of.lines.size() < 4);
        Line made = new Line();
        made.good = good;
        made.land = land;
        made.fields[0] = units;
        made.fields[1] = kilograms;
        made.fields[2] = price;
        made.held = held;
        of.lines.add(made);
        return of.lines.size() - 1;
    }

    public void charge(int declaration, int by, int cents) {
        argument(in(declaration, declarations.size()) && in(by, 2) && in(cents, 10000001));
        state(!declarations.get(declaration).accepted);
        declarations.get(declaration).charges[by] = cents;
    }

    public long lineOf(int declaration, int line, int what) {
        argument(in(declaration, declarations.size()) && in(line, declarations.get(declaration).lines.size()));
        argument(in(what, 3));
        Declaration of = declarations.get(declaration);
        if (what == 0) {
            return valueOf(of, line);
        }
        if (!of.accepted) {
            element(canAssess(of));
            int[] lefts = quotas.stream().mapToInt(quota -> quota.left).toArray();
            assess(of);
            for (int i = 0; i < lefts.length; i++) {
                quotas.get(i).left = lefts[i];
            }
        }
        return what == 1 ? of.lines.get(line).reduced : of.lines.get(line).duty;
    }

    public long accept(int declaration) {
        argument(in(declaration, declarations.size()));
        Declaration of = declarations.get(declaration);
        state(!of.accepted);
        for (Declaration other : declarations) {
            boolean later = other.day > of.day
                    || other.day == of.day && other.minute > of.minute
                    || other.day == of.day && other.minute == of.minute && other.number > of.number;
            state(!other.accepted || !later);
        }
        element(canAssess(of));
        if (lots.size() + of.lines.size() > 40) {
            throw new UnsupportedOperationException();
        }
        assess(of);
        of.accepted = true;
        for (Line line : of.lines) {
            line.lot = addLot(line.good, line.fields[0], line.duty, line.held, false);
            paid += line.held ? 0 : line.duty;
        }
        return dutyOfAll(of);
    }

    public long amend(int declaration, int line, int field, int value) {
        argument(in(declaration, declarations.size()) && in(line, declarations.get(declaration).lines.size()));
        argument(fieldFits(field, value));
        Declaration of = declarations.get(declaration);
        state(of.accepted && of.lines.stream().allMatch(each -> each.lot.gone == 0));
        element(canAssess(of));
        long before = dutyOfAll(of);
        of.lines.get(line).fields[field] = value;
        for (Line each : of.lines) {
            while (each.reduced > each.fields[0]) {
                each.reduced--;
                each.quota.left++;
            }
        }
        for (Line each : of.lines) {
            Quota now = quotaOf(of, each);
            while (each.quota != now && each.reduced > 0) {
                each.reduced--;
                each.quota.left++;
            }
            each.quota = now;
            takeUnits(each);
        }
        for (int i = 0; i < of.lines.size(); i++) {
            Line each = of.lines.get(i);
            each.duty = dutyOf(of, i);
            paid += each.held ? 0 : each.duty - each.lot.duty;
            each.lot.duty = each.duty;
            each.lot.units = each.fields[0];
        }
        return dutyOfAll(of) - before;
    }

    public long release(int good, int units) {
        argument(in(good, 16) && units >= 1 && units <= 1000);
        state(left(good, true) >= units);
        long parts = take(good, units, true);
        released[good] += units;
        paid += parts;
        return parts;
    }

    public long export(int good, int units) {
        argument(in(good, 16) && units >= 1 && units <= 1000);
        state(left(good, false) >= units);
        long parts = take(good, units, false);
        paidBack += parts;
        return parts;
    }

    public int work(int good, int units, int other, int made) {
        argument(in(good, 16) && in(other, 16) && good != other);
        argument(1 <= made && made <= units && units <= 1000);
        state(left(good, true) >= units);
        if (lots.size() >= 40) {
            throw new UnsupportedOperationException();
        }
        addLot(other, made, take(good, units, true), true, true);
        worked[good] += units;
        lost[good] += units - made;
        return lots.size() - 1;
    }

    public long lot(int lot, int what) {
        argument(in(lot, lots.size()) && in(what, 5));
        Lot of = lots.get(lot);
        return new long[] {of.good, of.units, of.gone, of.duty, of.held ? 1 : 0}[what];
    }

    public long account(int good, int what) {
        argument(in(good, 16) && in(what, 6));
        long accepted = 0;
        long made = 0;
        for (Lot lot : lots) {
            if (lot.good == good && lot.held) {
                accepted += lot.worked ? 0 : lot.units;
                made += lot.worked ? lot.units : 0;
            }
        }
        long rest = accepted + made - released[good] - worked[good];
        return new long[] {accepted, made, released[good], worked[good], lost[good], rest}[what];
    }

    public long books(int what) {
        argument(in(what, 2));
        return what == 0 ? paid : paidBack;
    }

    private boolean holds(Note note, int good) {
        int amount = facts[good][note.fact];
        if (note.kind == 1) {
            return amount < note.amount;
        }
        if (note.kind == 2) {
            for (int other = 0; other < 4; other++) {
                if (facts[good][other] > amount) {
                    return false;
                }
            }
        }
        return amount >= note.amount;
    }

    private Heading classOf(int good) {
        Heading best = null;
        for (Heading heading : headings) {
            List<Heading> chain = heading.selfAndAbove();
            boolean fits = notes.stream().allMatch(note -> !chain.contains(note.heading) || holds(note, good));
            if (fits && (best == null || heading.depth() > best.depth()
                    || heading.depth() == best.depth() && shareOf(heading, good) >= shareOf(best, good))) {
                best = heading;
            }
        }
        return best;
    }

    private int shareOf(Heading heading, int good) {
        List<Heading> chain = heading.selfAndAbove();
        return notes.stream().filter(note -> note.kind == 2 && chain.contains(note.heading))
                .mapToInt(note -> facts[good][note.fact]).max().orElse(0);
    }

    private Rate theRate(Heading heading, int land, int day) {
        Rate own = null;
        Rate forAll = null;
        for (Rate rate : rates) {
            if (rate.heading == heading && rate.from <= day && day <= rate.to) {
                own = rate.land == land ? rate : own;
                forAll = rate.land == -1 ? rate : forAll;
            }
        }
        if (own != null || forAll != null) {
            return own != null ? own : forAll;
        }
        return heading.parent == null ? null : theRate(heading.parent, land, day);
    }

    private boolean contains(int outer, int good) {
        return parts.get(outer).stream().anyMatch(part -> part.good == good || contains(part.good, good));
    }

    private boolean isMade(int good, int zone) {
        Heading own = classOf(good);
        if (parts.get(good).isEmpty() || own == null) {
            return false;
        }
        Rule rule = null;
        for (Heading heading : own.selfAndAbove()) {
            rule = rule == null ? rules.get(heading) : rule;
        }
        if (rule == null) {
            return false;
        }
        long all = 0;
        long foreign = 0;
        boolean sameClass = false;
        for (Part part : parts.get(good)) {
            all += part.value;
            boolean outside = (zones[zone] & 1 << part.land) == 0;
            if (outside || !parts.get(part.good).isEmpty() && !isMade(part.good, zone)) {
                foreign += part.value;
                sameClass |= classOf(part.good) == own;
            }
        }
        return rule.kind == 0 ? !sameClass : 1000 * foreign <= rule.limit * all;
    }

    private static boolean fieldFits(int field, int value) {
        return field == 0 && value >= 1 && value <= 1000
                || field == 1 && value >= 0 && value <= 1000000
                || field == 2 && value >= 0 && value <= 100000000;
    }

    private long valueOf(Declaration of, int line) {
        long value = of.lines.get(line).fields[2];
        for (int by = 0; by < 2; by++) {
            List<Long> weights = new ArrayList<>();
            for (Line each : of.lines) {
                weights.add((long) each.fields[by == 0 ? 1 : 2]);
            }
            value += spread(of.charges[by], weights).get(line);
        }
        return value;
    }

    private static List<Long> spread(long cents, List<Long> weights) {
        if (weights.stream().allMatch(weight -> weight == 0)) {
            weights.replaceAll(weight -> 1L);
        }
        long sum = weights.stream().mapToLong(weight -> weight).sum();
        List<Long> given = new ArrayList<>();
        List<Integer> order = new ArrayList<>();
        for (int i = 0; i < weights.size(); i++) {
            given.add(cents * weights.get(i) / sum);
            order.add(i);
        }
        order.sort((i, k) -> Long.compare(cents * weights.get(k) % sum, cents * weights.get(i) % sum));
        long rest = cents - given.stream().mapToLong(each -> each).sum();
        for (int i = 0; i < rest; i++) {
            given.set(order.get(i), given.get(order.get(i)) + 1);
        }
        return given;
    }

    private Rate rateOf(Declaration of, Line line) {
        Heading own = classOf(line.good);
        return own == null ? null : theRate(own, line.land, of.day);
    }

    private Quota quotaOf(Declaration of, Line line) {
        List<Heading> chain = classOf(line.good).selfAndAbove();
        for (Quota quota : quotas) {
            if (chain.contains(quota.heading) && quota.land == line.land
                    && quota.from <= of.day && of.day <= quota.to) {
                return quota;
            }
        }
        return null;
    }

    private boolean canAssess(Declaration of) {
        return !of.lines.isEmpty() && of.lines.stream().allMatch(line -> rateOf(of, line) != null);
    }

    private void assess(Declaration of) {
        for (int i = 0; i < of.lines.size(); i++) {
            Line line = of.lines.get(i);
            line.quota = quotaOf(of, line);
            line.reduced = 0;
            takeUnits(line);
            line.duty = dutyOf(of, i);
        }
    }

    private static void takeUnits(Line line) {
        while (line.quota != null && line.quota.left > 0 && line.reduced < line.fields[0]) {
            line.quota.left--;
            line.reduced++;
        }
    }

    private long dutyOf(Declaration of, int number) {
        Line line = of.lines.get(number);
        Rate rate = rateOf(of, line);
        BigInteger value = BigInteger.valueOf(valueOf(of, number));
        BigInteger byValue = value.multiply(BigInteger.valueOf(rate.a));
        BigInteger byWeight = BigInteger.valueOf(line.fields[1]).multiply(BigInteger.valueOf(rate.b * 10000L));
        BigInteger whole = switch (rate.kind) {
            case 0 -> byValue;
            case 1 -> byWeight;
            case 2 -> byValue.max(byWeight);
            default -> byValue.add(byWeight);
        };
        BigInteger low = value.multiply(BigInteger.valueOf(line.quota == null ? 0 : line.quota.a));
        BigInteger sum = whole.multiply(BigInteger.valueOf(line.fields[0] - line.reduced))
                .add(low.multiply(BigInteger.valueOf(line.reduced)));
        BigInteger[] halves = sum.divideAndRemainder(BigInteger.valueOf(10000L * line.fields[0]));
        boolean up = halves[1].shiftLeft(1).compareTo(BigInteger.valueOf(10000L * line.fields[0])) >= 0;
        return halves[0].longValueExact() + (up ? 1 : 0);
    }

    private static long dutyOfAll(Declaration of) {
        return of.lines.stream().mapToLong(line -> line.duty).sum();
    }

    private Lot addLot(int good, int units, long duty, boolean held, boolean byWorking) {
        Lot made = new Lot();
        made.good = good;
        made.units = units;
        made.duty = duty;
        made.held = held;
        made.worked = byWorking;
        lots.add(made);
        return made;
    }

    private long left(int good, boolean held) {
        return lots.stream().filter(lot -> lot.good == good && lot.held == held)
                .mapToLong(lot -> lot.units - lot.gone).sum();
    }

    private long take(int good, int units, boolean held) {
        long parts = 0;
        for (int unit = 0; unit < units; unit++) {
            for (Lot lot : lots) {
                if (lot.good == good && lot.held == held && lot.gone < lot.units) {
                    parts -= lot.duty * lot.gone / lot.units;
                    lot.gone++;
                    parts += lot.duty * lot.gone / lot.units;
                    break;
                }
            }
        }
        return parts;
    }

    private static boolean in(int number, int count) {
        return number >= 0 && number < count;
    }

    private static void argument(boolean right) {
        if (!right) {
            throw new IllegalArgumentException();
        }
    }

    private static void state(boolean right) {
        if (!right) {
            throw new IllegalStateException();
        }
    }

    private static void element(boolean found) {
        if (!found) {
            throw new NoSuchElementException();
        }
    }
}
