import java.util.ArrayList;
import java.util.List;

/**
 * Whether a refused call has changed anything. Two new desks get the same calls, one of them the
 * refused call too; from then on both must answer alike. Each part of the state is asked for on
 * two desks of its own, since an object is used for so many calls only and some questions change it.
 */
final class Refusal {
    private static final List<List<Call>> QUESTIONS = List.of(
            aboutHeadings(), aboutRates(), aboutOrigins(), aboutDeclarations(), aboutLots(), aboutGoingOn());

    private Refusal() { }

    /** What the refused call has changed, or null. */
    static String changeBy(Call refused, List<Call> before) {
        for (List<Call> questions : QUESTIONS) {
            if (before.size() + 1 + questions.size() > Run.MOST_CALLS) {
                return "too many calls came before it to see what it has changed";
            }
            BorderDesk one = deskAfter(before);
            BorderDesk other = deskAfter(before);
            refused.answerOf(other);
            for (Call question : questions) {
                String due = question.answerOf(one);
                String answer = question.answerOf(other);
                if (!answer.equals(due)) {
                    return question + " answers " + answer + " then, and " + due + " without it";
                }
            }
        }
        return null;
    }

    private static BorderDesk deskAfter(List<Call> calls) {
        BorderDesk desk = new BorderDesk();
        for (Call call : calls) {
            call.answerOf(desk);
        }
        return desk;
    }

    private static List<Call> aboutHeadings() {
        List<Call> calls = new ArrayList<>();
        for (int good = 0; good < 16; good++) {
            calls.add(new Call("classify", good));
        }
        for (int good = 0; good < 16; good++) {
            for (int fact = 0; fact < 8; fact++) {
                calls.add(new Call("fact", good, fact, 1000));
            }
            calls.add(new Call("classify", good));
        }
        calls.add(new Call("note", 0, 1, 0, 1));
        for (int heading = -1; heading < 24; heading++) {
            calls.add(new Call("heading", heading));
        }
        return calls;
    }

    private static List<Call> aboutRates() {
        List<Call> calls = new ArrayList<>();
        for (int heading = 0; heading < 24; heading++) {
            for (int day : new int[] {0, 5, 9999}) {
                calls.add(new Call("rateFor", heading, 0, day));
                calls.add(new Call("rateFor", heading, 7, day));
            }
        }
        for (int quota = 0; quota < 8; quota++) {
            calls.add(new Call("quotaLeft", quota));
        }
        calls.add(new Call("rate", 0, 0, 0, 0, 0, 0, 9999));
        calls.add(new Call("quota", 0, 0, 1, 0, 0, 9999));
        return calls;
    }

    private static List<Call> aboutOrigins() {
        List<Call> calls = new ArrayList<>();
        askWhatIsMadeIn(calls);
        for (int good = 0; good < 16; good++) {
            calls.add(new Call("part", good, (good + 1) % 16, 3, 0));
        }
        askWhatIsMadeIn(calls);
        for (int zone = 0; zone < 4; zone++) {
            calls.add(new Call("zone", zone, 255));
        }
        askWhatIsMadeIn(calls);
        return calls;
    }

    private static void askWhatIsMadeIn(List<Call> calls) {
        for (int good = 0; good < 16; good++) {
            for (int zone = 0; zone < 4; zone++) {
                calls.add(new Call("madeIn", good, zone));
            }
        }
    }

    private static List<Call> aboutDeclarations() {
        List<Call> calls = new ArrayList<>();
        for (int declaration = 0; declaration < 12; declaration++) {
            for (int line = 0; line < 4; line++) {
                for (int what = 0; what < 3; what++) {
                    calls.add(new Call("lineOf", declaration, line, what));
                }
            }
        }
        for (int declaration = 0; declaration < 12; declaration++) {
            calls.add(new Call("line", declaration, 0, 0, 1, 1, 1, false));
            calls.add(new Call("lineOf", declaration, 0, 0));
        }
        calls.add(new Call("declare", 9999, 0));
        return calls;
    }

    private static List<Call> aboutLots() {
        List<Call> calls = new ArrayList<>();
        for (int lot = 0; lot < 40; lot++) {
            for (int what = 0; what < 5; what++) {
                calls.add(new Call("lot", lot, what));
            }
        }
        for (int good = 0; good < 16; good++) {
            for (int what = 0; what < 6; what++) {
                calls.add(new Call("account", good, what));
            }
        }
        calls.add(new Call("books", 0));
        calls.add(new Call("books", 1));
        return calls;
    }

    private static List<Call> aboutGoingOn() {
        List<Call> calls = new ArrayList<>();
        for (int declaration = 0; declaration < 12; declaration++) {
            calls.add(new Call("accept", declaration));
        }
        for (int declaration = 0; declaration < 12; declaration++) {
            calls.add(new Call("amend", declaration, 0, 2, 777));
        }
        for (int good = 0; good < 16; good++) {
            calls.add(new Call("release", good, 1));
            calls.add(new Call("export", good, 1));
            calls.add(new Call("work", good, 1, (good + 1) % 16, 1));
        }
        for (int lot = 0; lot < 40; lot++) {
            calls.add(new Call("lot", lot, 2));
            calls.add(new Call("lot", lot, 3));
        }
        for (int quota = 0; quota < 8; quota++) {
            calls.add(new Call("quotaLeft", quota));
        }
        calls.add(new Call("books", 0));
        calls.add(new Call("books", 1));
        return calls;
    }
}
