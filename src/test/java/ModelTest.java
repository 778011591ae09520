import java.util.ArrayList;
import java.util.List;
import java.util.Random;

/** Compares the program with the model over runs of made-up calls; the same ones each time. */
public final class ModelTest {
    private static final int RUNS = 2000;

    /** Names that stand more often are called more often. */
    private static final String[] NAMES = {
        "heading", "note", "fact", "fact", "fact", "classify", "rate", "rateFor", "quota", "quotaLeft",
        "quotaLeft", "part", "part", "zone", "rule", "madeIn", "madeIn", "declare", "line", "line", "line",
        "charge", "lineOf", "lineOf", "lineOf", "lineOf", "accept", "accept", "amend", "amend", "amend",
        "amend", "release", "export", "work", "lot", "lot", "lot", "account", "account", "books", "books",
    };

    private final Random random;
    private final BorderDesk desk = new BorderDesk();
    private final Model model = new Model();
    private final List<String> calls = new ArrayList<>();
    private int headings = 0;
    private int declarations = 0;
    private int nextToAccept = 0;
    private int lots = 0;

    private ModelTest(int seed) {
        random = new Random(seed);
    }

    public static void main(String[] args) {
        for (int seed = 0; seed < RUNS; seed++) {
            if (!new ModelTest(seed).agree()) {
                break;
            }
        }
        Run.finish();
    }

    private boolean agree() {
        // so that not every run is spent on declarations that cannot be assessed
        boolean same = agreeOn("heading", row(-1))
                && agreeOn("rate", row(0, -1, below(4), upTo(10000), upTo(10000), 0, 9999))
                && agreeOn("quota", row(0, 0, oneOf(1, 5, 20, 300), upTo(10000), 0, 9999));
        if (!same) {
            return false;
        }
        for (int i = 3; i < Run.MOST_CALLS; i++) {
            String name = NAMES[random.nextInt(NAMES.length)];
            if (!agreeOn(name, arguments(name))) {
                return false;
            }
        }
        return true;
    }

    private boolean agreeOn(String name, Object[] arguments) {
        Call call = new Call(name, arguments);
        String got = call.answerOf(desk);
        String due = call.answerOf(model);
        calls.add(call + " -> " + due);
        count(name, due);
        if (!got.equals(due)) {
            Run.fault(String.join("\n", calls) + "\nthe last one answered " + got);
            return false;
        }
        return true;
    }

    private void count(String name, String due) {
        boolean done = !Call.isRefusal(due);
        headings += done && name.equals("heading") ? 1 : 0;
        declarations += done && name.equals("declare") ? 1 : 0;
        nextToAccept += done && name.equals("accept") ? 1 : 0;
        lots += done && (name.equals("accept") || name.equals("work")) ? 1 : 0;
    }

    private Object[] arguments(String name) {
        switch (name) {
            case "heading": return row(random.nextInt(3) == 0 ? -1 : heading());
            case "note": return row(headingForNote(), below(3), below(8), oneOf(1, 1, 2, 3, 5, 1000));
            case "fact": return row(good(), below(8), oneOf(0, 0, 1, 2, 3, 5, 1000));
            case "classify": return row(good());
            case "rate": return row(heading(), random.nextBoolean() ? -1 : land(), below(4),
                    upTo(10000), upTo(10000), oneOf(0, 0, 0, 2), oneOf(9999, 9999, 3));
            case "rateFor": return row(heading(), land(), day());
            case "quota": return row(heading(), land(), oneOf(1, 5, 20, 300, 100000), upTo(10000),
                    oneOf(0, 0, 2), oneOf(9999, 3));
            case "quotaLeft": return row(below(8));
            case "part": return row(good(), good(), oneOf(0, 1, 2, 10, 1000000), land());
            case "zone": return row(below(4), below(256));
            case "rule": return row(heading(), below(2), oneOf(0, 333, 500, 1000));
            case "madeIn": return row(good(), below(4));
            case "declare": return row(dayToDeclare(), oneOf(0, 5, 1439));
            case "line": return new Object[] {declaration(), good(), land(), units(), upTo(1000000),
                    upTo(100000000), random.nextBoolean()};
            case "charge": return row(declaration(), below(2), upTo(10000000));
            case "lineOf": return row(declaration(), below(3), below(3));
            case "accept": return row(declarationToAccept());
            case "amend": return amendArguments();
            case "release":
            case "export": return row(good(), units());
            case "work": return workArguments();
            case "lot": return row(below(Math.min(40, lots * 2 + 1)), below(5));
            case "account": return row(good(), below(6));
            default: return row(below(2));
        }
    }

    private Object[] amendArguments() {
        int field = below(3);
        int value = field == 0 ? units() : upTo(field == 1 ? 1000000 : 100000000);
        return row(declaration(), below(3), field, value);
    }

    private Object[] workArguments() {
        int units = units();
        return row(good(), units, good(), units > 0 ? 1 + random.nextInt(units) : units);
    }

    private static Object[] row(Integer... numbers) {
        Object[] row = new Object[numbers.length];
        System.arraycopy(numbers, 0, row, 0, numbers.length);
        return row;
    }

    private int heading() {
        return below(Math.max(1, headings));
    }

    /** Seldom the first one, for else no good has a class in the end. */
    private int headingForNote() {
        return random.nextInt(40) == 0 ? 0 : Math.max(heading(), 1);
    }

    private int declaration() {
        return below(Math.max(1, declarations));
    }

    private int declarationToAccept() {
        return random.nextInt(3) == 0 ? declaration() : nextToAccept;
    }

    private int good() {
        return below(random.nextInt(4) == 0 ? 16 : 4);
    }

    private int land() {
        return below(random.nextInt(4) == 0 ? 8 : 2);
    }

    private int day() {
        return oneOf(0, 1, 2, 3, 4, 9999);
    }

    /** Mostly not before that of an earlier declaration, so that many can be accepted. */
    private int dayToDeclare() {
        return random.nextInt(4) == 0 ? day() : declarations / 3;
    }

    private int units() {
        return oneOf(1, 2, 3, 7, 10, 40, 1000);
    }

    /** A number under a bound, seldom one of those at the bounds' wrong sides. */
    private int below(int count) {
        int turn = random.nextInt(60);
        return turn == 0 ? -1 : turn == 1 ? count : random.nextInt(count);
    }

    private int upTo(int most) {
        int turn = random.nextInt(12);
        if (turn < 2) {
            return turn == 0 ? 0 : most;
        }
        return turn < 9 ? random.nextInt(Math.min(most, 1 << 3 + turn)) : below(most + 1);
    }

    private int oneOf(int... numbers) {
        int turn = random.nextInt(200);
        return turn < 2 ? new int[] {-1, numbers[numbers.length - 1] + 1}[turn]
                : numbers[random.nextInt(numbers.length)];
    }
}
