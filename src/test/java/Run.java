import java.util.ArrayList;
import java.util.List;

/**
 * A run of calls on a new desk, told in rows such as "heading(-1) -> 0". What stands behind the
 * arrow is the answer that is due: a number, true or false, done (for a call without an answer)
 * or the name of the exception; then it is seen too that the call has changed nothing. Text behind
 * a # is a remark.
 */
final class Run {
    /** The document promises nothing about an object after so many calls. */
    static final int MOST_CALLS = 512;

    private static int wrong = 0;

    private final BorderDesk desk = new BorderDesk();
    private final String name;
    private final List<Call> done = new ArrayList<>();
    private int calls = 0;

    Run(String name) {
        this.name = name;
    }

    Run rows(String rows) {
        for (String row : rows.split("\n")) {
            String told = row.replaceFirst("#.*", "").trim();
            if (!told.isEmpty()) {
                row(told);
            }
        }
        return this;
    }

    /** The same row several times; every $ in it stands for the number of the turn, 0 at first. */
    Run times(int turns, String row) {
        for (int turn = 0; turn < turns; turn++) {
            row(row.replace("$", Integer.toString(turn)));
        }
        return this;
    }

    /** The same call several times, whose answers are due to count up from a first one. */
    Run counting(int turns, String call, int first) {
        for (int turn = 0; turn < turns; turn++) {
            row(call + " -> " + (first + turn));
        }
        return this;
    }

    /** The ? in a call stands for a number that is allowed from a least to a most one only. */
    Run only(int least, int most, String call) {
        int[] none = {least - 1, most + 1, Integer.MIN_VALUE, Integer.MAX_VALUE};
        for (int number : none) {
            row(call.replace("?", Integer.toString(number)) + " -> IllegalArgumentException");
        }
        return this;
    }

    /** Ends the program with exit code 1 if an answer of any run was not the one that was due. */
    static void finish() {
        if (wrong > 0) {
            System.out.println(wrong + " answers are not as due");
            System.exit(1);
        }
    }

    static void fault(String text) {
        wrong++;
        System.out.println(text);
    }

    private void row(String row) {
        String[] sides = row.split("->");
        Call call = Call.read(sides[0]);
        String due = sides[1].trim();
        calls++;
        if (calls > MOST_CALLS) {
            fault(name + ": too many calls for one object");
        }
        String answer = call.answerOf(desk);
        if (!answer.equals(due)) {
            fault(name + ": " + call + " answered " + answer + ", due is " + due);
        }
        if (!Call.isRefusal(due)) {
            done.add(call);
            return;
        }
        String change = Refusal.changeBy(call, done);
        if (change != null) {
            fault(name + ": " + call + " was refused, but: " + change);
        }
    }
}
