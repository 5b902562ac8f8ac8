import java.util.ArrayList;
import java.util.List;
import java.util.Map;
import java.util.TreeSet;

/**
 * What a refused call leaves as it was, and what a call that only asks does: two objects get the same calls but for that
 * one, and have to answer alike ever after. Which exception is due is the model's word.
 */
public final class RefusedTest {
    /** Each is refused, or answered NONE for want of room, in some state at least. */
    private static final List<String> REFUSED = States.calls(
        "wheel 2 0 4; wheel 2 21 4; wheel 2 -1 4; wheel 2 0 0; wheel 2 0 201; wheel 11 0 4; wheel 1 4 4; wheel -2147483648 0 4; "
        + "row -1 5; row 64 5; row 0 -1; row 0 61; row 9 61; pulse 0 2 501; pulse 0 2 -1; pulse 64 2 1; pulse -1 2 1; pulse 1 9 1; "
            + "pulse 1 -1 1; pulse 2 0 1; pulse 3 0 1; "
        + "tear 64 0; tear -1 0; tear 3 0; tear 3 -1; pulses 64 0; pulses -1 0; tariff -1; tariff 5; tariff 0; tariff 4; "
        + "set 0 0 7; set 12 0 7; set -1 0 7; set 0 6 7; set 0 15 7; set 0 -1 7; set 0 0 -1; set 0 0 10001; set 3 13 1000001; set 4 14 10001; "
        + "number 12 0; number -1 0; number 0 6; number 0 15; number 0 -1; slot 12 0 0; slot -1 0 0; slot 0 3 0; slot 0 -1 0; "
            + "slot 0 1 12; slot 0 1 -1; slot 6 2 40; slot 6 2 -1; "
        + "kind 12; kind -1; seal; breaks 40; breaks -1; blow 12; blow -1; blow 5; blow 0; sets 40; sets -1; since 40; since -1; "
        + "hire 0 5 5 5; hire 12 5 5 5; hire -1 5 5 5; hire 0 100 5 5; hire 0 -1 5 5; hire 0 5 1440 5; hire 0 5 -1 5; hire 0 5 5 60; "
            + "hire 0 5 5 -1; hire 5 5 5 5; hire 6 5 5 5; "
        + "second; run 0; run 5; run -1; run 3841; hand 1; hand 3; hand 12; hand -1; hand 5; hand 6; extra 5; extra -1; extra 10001; "
            + "end 5; end -1; end 100; "
        + "pay 5; pay 1000000; pay -1; fare; part 1; part 0; part 1000001; about 0; about -1; about 17; dark 0; dark -1; dark 3840; "
            + "receipt 0 0; receipt -1 0; receipt 1 0; receipt 0 4; receipt 0 -1; "
        + "again; leg 5 5; leg 5 1; leg -1 5; leg 60001 5; leg 5 0; leg 5 3841; should 12 0 0 0 0; should -1 0 0 0 0; should 0 100 0 0 0; "
            + "should 0 -1 0 0 0; should 0 0 100 0 0; should 0 0 -1 0 0; "
        + "should 0 0 0 1440 0; should 0 0 0 -1 0; should 0 0 0 0 60; should 0 0 0 0 -1; should 5 0 0 0 0; should 6 0 0 0 0; error; "
            + "within 1 1; within -1 1; within 1000001 1; within 1 0; within 1 1000001; keep; back");

    /** Each of these changes nothing, whatever it answers. */
    private static final List<String> ASKING = States.calls(
        "pulses 0 2; pulses 9 0; number 0 0; number 4 14; kind 0; kind 6; kind 5; since 0; since 1; run 0; extra 0; fare; part 1; "
            + "part 1000000; about 0; about 6; about 8; about 11; about 12; "
        + "dark 0; receipt 0 0; again; error; within 1 1; within 0 1000000");

    private static final List<String> PROBES = probes();

    private final String state;
    private final List<String> calls;
    private final List<String> answersWithout;

    private RefusedTest(String state, List<String> calls) {
        this.state = state;
        this.calls = calls;
        this.answersWithout = probe(inState());
    }

    public static void main(String[] args) {
        TreeSet<String> neverRefused = new TreeSet<>(REFUSED);
        for (Map.Entry<String, List<String>> entry : States.all().entrySet()) {
            RefusedTest test = new RefusedTest(entry.getKey(), entry.getValue());
            for (String call : REFUSED) {
                if (test.refuses(call)) {
                    neverRefused.remove(call);
                    test.leaves(call);
                }
            }
            for (String call : ASKING) {
                test.leaves(call);
            }
        }
        if (!neverRefused.isEmpty()) {
            Bench.fail("refused", "in no state: " + neverRefused);
        }
        Bench.close();
    }

    private static List<String> probes() {
        List<String> probes = new ArrayList<>();
        for (int i : new int[] {0, 2, 5, 8, 9, 59}) {
            probes.addAll(States.calls("pulses 0 " + i + "; pulses 1 " + i + "; pulses 2 " + i + "; pulses 3 " + i + "; pulses 63 " + i));
        }
        for (int what : new int[] {0, 1, 2, 3, 4, 5, 6, 7, 8, 9, 10, 11, 12, 13, 14}) {
            probes.addAll(States.calls("number 0 " + what + "; number "
                + (what < 6 ? 1 : what < 9 ? 1 : what < 11 ? 2 : what < 14 ? 3 : 4) + " " + what));
        }
        for (int i = 0; i < 12; i++) {
            probes.addAll(States.calls("kind " + i));
        }
        probes.addAll(States.calls("since 0; since 1; since 2; since 3; since 39; fare; part 1000000; part 7; part 999999; dark 0; "
            + "dark 59; dark 3700; receipt 0 0; receipt 0 1; receipt 0 2; receipt 0 3; receipt 1 0; error; within 0 1; within 1 7"));
        for (int what = 0; what <= 16; what++) {
            probes.add("about " + what);
        }
        // What can't be asked for shows in what comes next.
        probes.addAll(States.calls("second; part 1000000; about 6; about 8; hand 1; about 5; about 10; extra 1; run 61; fare; about 7; "
            + "dark 1; back; part 1000000; about 5; about 9; about 10; fare; hand 4; run 9; fare; end 1; "
            + "about 14; about 15; about 12; fare; again; pay 1000000; receipt 0 0; receipt 1 0; receipt 1 3; clear; leg 5 5; "
                + "should 4 0 1 0 0; error; wheel 5 0 3; wheel 3 0 7; "
            + "tariff 3; seal; sets 0; breaks 1; sets 1; since 1; hire 0 7 8 9; row 0 60; pulse 0 0 33; run 7; about 6; about 0; "
                + "about 12; part 1000000; keep; back; end 7; again; receipt 2 0"));
        return probes;
    }

    private FareClock inState() {
        FareClock clock = new FareClock();
        for (String call : calls) {
            String answer = States.answer(clock, call);
            if (answer.startsWith("throws.")) {
                Bench.fail(state, call + " on the way there: " + answer);
            }
        }
        return clock;
    }

    private List<String> probe(FareClock clock) {
        if (calls.size() + 1 + PROBES.size() > 512) {
            Bench.fail(state, "more calls than 512");
        }
        List<String> answers = new ArrayList<>();
        for (String call : PROBES) {
            answers.add(call + " = " + States.answer(clock, call));
        }
        return answers;
    }

    /** Whether the model refuses the call; the class has to answer as it does. */
    private boolean refuses(String call) {
        Model model = new Model();
        for (String before : calls) {
            States.answer(model, before);
        }
        String due = States.answer(model, call);
        String got = States.answer(inState(), call);
        if (!due.equals(got)) {
            Bench.fail(state, call + " = " + due + ", but it answered " + got);
        }
        boolean isFull = due.equals("-1") && call.matches("(tariff|seal|leg).*");
        return due.startsWith("throws.") || isFull;
    }

    private void leaves(String call) {
        FareClock clock = inState();
        States.answer(clock, call);
        List<String> answers = probe(clock);
        for (int i = 0; i < answers.size(); i++) {
            if (!answers.get(i).equals(answersWithout.get(i))) {
                Bench.fail(state, "behind " + call + ": " + answers.get(i) + ", without it: " + answersWithout.get(i));
                return;
            }
        }
    }
}
