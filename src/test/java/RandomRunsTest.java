import java.util.ArrayList;
import java.util.List;
import java.util.Random;

/** Random runs of up to 512 calls, each answer against the model's; the seeds are fixed, so every run is the same. */
public final class RandomRunsTest {
    private static final int[] ODD = {-1, 0, 1, 2, 59, 60, 61, 63, 64, 99, 100, 500, 501, Integer.MIN_VALUE, Integer.MAX_VALUE};
    /** Calls by name, with weights by how often they stand here. */
    private static final String[] NAMES = (
        "wheel row row pulse pulse pulse pulse pulse pulse pulse tear pulses tariff set set set number slot slot kind seal breaks blow sets since "
        + "hire hire hire second second second run run run hand hand hand hand hand extra end pay fare part part about about about dark dark "
        + "receipt again again leg leg clear should should error within within within keep back").split(" ");

    private final Random random;
    private final Model model = new Model();
    private final FareClock clock = new FareClock();
    private final List<String> told = new ArrayList<>();

    private RandomRunsTest(long seed) {
        random = new Random(seed);
    }

    public static void main(String[] args) {
        int runs = args.length > 0 ? Integer.parseInt(args[0]) : 250;
        long from = args.length > 1 ? Long.parseLong(args[1]) : 1;
        for (long seed = from; seed < from + runs; seed++) {
            new RandomRunsTest(seed).go(seed);
        }
        new RandomRunsTest(from).widest();
        Bench.close();
    }

    private void go(long seed) {
        // Some runs have rich settings made first, so that the parts get wide bottoms.
        int settled = random.nextInt(3);
        if (settled > 0) {
            settle(settled == 2);
        }
        while (told.size() < 512) {
            String name = NAMES[random.nextInt(NAMES.length)];
            if (!call(name, arguments(name))) {
                Bench.fail("seed " + seed, String.join("; ", told.subList(Math.max(0, told.size() - 12), told.size())));
                return;
            }
        }
    }

    private void settle(boolean rich) {
        call("wheel", 1 + random.nextInt(9), 0, 1 + random.nextInt(200));
        for (int i = 0; i < 12; i++) {
            int kind = random.nextInt(5);
            call("tariff", kind);
            call("slot", i, 1, i);
            if (rich) {
                call("set", i, 3, 10000 + random.nextInt(990001));
                call("set", i, 4, 1 + random.nextInt(600));
                call("set", i, 5, random.nextInt(3000));
                if (kind == 2 || kind == 3) {
                    call("set", i, 10, 10000 + random.nextInt(990001));
                    call("set", i, 9, random.nextInt(100000));
                }
            }
        }
        call("row", 0, 60);
        for (int i = 0; i < 60; i += 1 + random.nextInt(5)) {
            call("pulse", 0, i, random.nextInt(501));
        }
    }

    /** All lengths and times of twelve tariffs in one hire, without common divisors where that can be. */
    private void widest() {
        boolean holds = call("wheel", 1, 0, 199);
        for (int i = 0; i < 12; i++) {
            holds &= call("tariff", 2) & call("slot", i, 1, i) & call("set", i, 3, primeBelow(1000000 - 300 * i));
            holds &= call("set", i, 10, primeBelow(1000000 - 300 * i - 150)) & call("set", i, 4, primeBelow(600 - 12 * i));
            holds &= call("set", i, 5, 0) & call("set", i, 9, 12 * 500 * 1000 / 199);
        }
        holds &= call("row", 0, 60);
        for (int i = 0; i < 60; i += 2) {
            holds &= call("pulse", 0, i, i == 24 ? 499 : 500);
        }
        holds &= call("leg", 59999, 7) & call("leg", 1, 3) & call("should", 3, 0, 0, 0, 0) & call("hire", 0, 0, 0, 0);
        for (int i = 0; i < 30; i++) {
            holds &= call("hand", i % 12) & call("second") & call("part", 1000000) & call("keep") & call("second") & call("part", 999999);
            for (int b = 999990; b < 1000000; b += 9) {
                holds &= call("within", model.edge(b), b) & call("within", model.edge(b) + 1, b);
            }
            holds &= i % 5 != 0 || call("back") & call("second") & call("part", 1000000);
        }
        holds &= call("end", 0) & call("again");
        if (!holds) {
            Bench.fail("widest", String.join("; ", told));
        }
    }

    private static int primeBelow(int n) {
        int p = n - 1;
        while (!java.math.BigInteger.valueOf(p).isProbablePrime(50)) {
            p--;
        }
        return p;
    }

    private boolean call(String name, long... args) {
        String due = Calls.answer(model, name, args);
        String got = Calls.answer(clock, name, args);
        StringBuilder line = new StringBuilder(name);
        for (long arg : args) {
            line.append(' ').append(arg);
        }
        told.add(line.append(" = ").append(due).append(due.equals(got) ? "" : " BUT " + got).toString());
        return due.equals(got);
    }

    private int from(int least, int most) {
        return random.nextInt(40) == 0 ? ODD[random.nextInt(ODD.length)] : least + random.nextInt(most - least + 1);
    }

    /** Mostly one of the first ones, so that calls meet. */
    private int low(int most) {
        return random.nextInt(4) == 0 ? from(0, most) : from(0, Math.min(most, 2));
    }

    private long[] arguments(String name) {
        switch (name) {
            case "wheel":
                int s = from(0, 20);
                int m = random.nextInt(8) == 0 ? from(-5, 20) : from(1, 10 << Math.max(0, Math.min(s, 20)));
                return args(m, s, random.nextInt(8) == 0 ? from(0, 201) : from(1, 200));
            case "row":
                return args(low(63), random.nextInt(3) == 0 ? from(0, 60) : 60);
            case "pulse":
                return args(low(63), from(0, 59), random.nextInt(3) == 0 ? 0 : from(0, 500));
            case "tear":
                return args(low(63), from(-1, 60));
            case "pulses":
                return args(low(63), from(0, 60));
            case "tariff":
                return args(from(0, 4));
            case "set":
                int what = from(0, 14);
                return args(low(11), what, numberFor(what));
            case "number":
                return args(low(11), from(0, 14));
            case "slot":
                return args(low(11), random.nextInt(4) == 0 ? from(0, 2) : 1, low(11));
            case "kind", "blow", "hand":
                return args(low(11));
            case "breaks", "sets", "since":
                return args(low(39));
            default:
                return moreArguments(name);
        }
    }

    private int numberFor(int what) {
        if (what < 0 || what > 14) {
            return 1;
        }
        switch (random.nextInt(6)) {
            case 0:
                return Model.LEAST[what] - random.nextInt(2);
            case 1:
                return Model.MOST[what] + random.nextInt(2);
            default:
                return Model.LEAST[what] + random.nextInt(Math.min(Model.MOST[what] - Model.LEAST[what], 1 << random.nextInt(24)) + 1);
        }
    }

    private long[] moreArguments(String name) {
        switch (name) {
            case "hire":
                return args(low(11), low(99), from(0, 1439), from(0, 59));
            case "run":
                return args(random.nextInt(12) == 0 ? from(0, 3840) : from(0, 70));
            case "extra":
                return args(from(0, 10000));
            case "end":
                return args(low(99));
            case "pay":
                return args(random.nextInt(3) == 0 ? from(0, 500) : from(0, 100000000));
            case "part":
                return args(random.nextInt(2) == 0 ? 1000000 : from(1, 1000000));
            case "about":
                return args(from(0, 16));
            case "dark":
                return args(random.nextInt(3) == 0 ? from(0, 3839) : low(50));
            case "receipt":
                return args(low(20), from(0, 3));
            case "leg":
                return args(random.nextInt(2) == 0 ? from(0, 60000) : from(0, 9000), random.nextInt(10) == 0 ? from(1, 3840) : from(1, 40));
            case "should":
                return args(low(11), low(99), low(99), from(0, 1439), from(0, 59));
            case "within":
                int b = from(1, 1000000);
                int a = b < 1 || b > 1000000 ? 0 : model.edge(b) + random.nextInt(3) - 1;
                return args(random.nextInt(4) == 0 ? from(0, 1000000) : a, b);
            default:
                return args();
        }
    }

    private static long[] args(int... values) {
        long[] wide = new long[values.length];
        for (int i = 0; i < values.length; i++) {
            wide[i] = values[i];
        }
        return wide;
    }
}
