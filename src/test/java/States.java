import java.util.ArrayList;
import java.util.LinkedHashMap;
import java.util.List;
import java.util.Map;

/** Calls that bring a new object into states in which calls are refused; by names of the states. */
final class States {
    private static final String SETTLED =
        "wheel 3 0 7; row 0 60; row 1 9; row 2 0; pulse 0 2 40; pulse 0 5 7; pulse 1 8 500; tariff 0; tariff 1; tariff 2; tariff 3; "
            + "tariff 4; seal; seal; seal; "
        + "slot 0 1 0; slot 1 1 1; slot 2 1 2; slot 3 1 3; slot 4 1 4; slot 6 2 0; slot 7 2 1; slot 11 1 3; set 0 4 7; set 1 4 11; set 2 9 20000; "
        + "set 3 1 4; leg 5000 10; leg 20000 7; should 2 3 4 1300 5; ";
    private static final String HIRED =
        SETTLED + "hire 3 0 1319 50; extra 12; second; hand 4; second; keep; hand 0; extra 3; run 2; seal; breaks 3; ";

    private States() {
    }

    static Map<String, List<String>> all() {
        Map<String, List<String>> states = new LinkedHashMap<>();
        states.put("a new object", calls(""));
        states.put("settled, no hire yet", calls(SETTLED + "breaks 1; "));
        states.put("a hire of no seconds", calls(SETTLED + "hire 3 0 1319 50; "));
        states.put("a hire that stands", calls(HIRED));
        states.put("a hire that moves", calls(HIRED + "run 2; "));
        states.put("a hire in a dark second", calls(HIRED + "run 66; "));
        states.put("a hire of all seconds", calls(HIRED + "run 3840; "));
        states.put("a hire of fifty hands", calls(SETTLED + "hire 3 0 1319 50; second; keep; " + "hand 4; hand 3; ".repeat(25)));
        states.put("a hire with a seal broken", calls(HIRED + "breaks 0; "));
        states.put("a hire that has ended", calls(HIRED + "run 66; end 1; "));
        states.put("a flat hire that has ended", calls(SETTLED + "hire 3 0 1319 50; run 66; keep; end 1; "));
        states.put("a hire that is paid", calls(HIRED + "run 66; end 1; pay 100000; "));
        states.put("a hire behind another one with an image", calls(HIRED + "end 1; hire 0 1 2 3; second; "));
        states.put("all is full", calls(SETTLED + "tariff 1; ".repeat(7) + "seal; ".repeat(37) + "leg 1 1; ".repeat(18) + "hire 0 0 0 0; second; "));
        states.put("a track of all seconds", calls(SETTLED + "leg 7 3823; hire 0 0 0 0; end 1; "));
        return states;
    }

    static List<String> calls(String text) {
        List<String> calls = new ArrayList<>();
        for (String call : text.split(";")) {
            if (!call.isBlank()) {
                calls.add(call.trim());
            }
        }
        return calls;
    }

    static String answer(Object target, String call) {
        String[] words = call.split(" +");
        long[] args = new long[words.length - 1];
        for (int i = 0; i < args.length; i++) {
            args[i] = Long.parseLong(words[i + 1]);
        }
        return Calls.answer(target, words[0], args);
    }
}
