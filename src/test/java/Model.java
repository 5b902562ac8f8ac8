import java.math.BigInteger;
import java.util.ArrayList;
import java.util.Arrays;
import java.util.HashSet;
import java.util.List;
import java.util.NoSuchElementException;
import java.util.Set;

/** What the document says, written down anew as plainly as can be, with exact fractions over BigInteger. */
final class Model {
    record Fraction(BigInteger top, BigInteger bottom) implements Comparable<Fraction> {
        static Fraction of(long top, long bottom) {
            return reduced(BigInteger.valueOf(top), BigInteger.valueOf(bottom));
        }

        private static Fraction reduced(BigInteger top, BigInteger bottom) {
            BigInteger g = top.gcd(bottom);
            return new Fraction(top.divide(g), bottom.divide(g));
        }

        Fraction plus(Fraction o) {
            return reduced(top.multiply(o.bottom).add(o.top.multiply(bottom)), bottom.multiply(o.bottom));
        }

        Fraction minus(Fraction o) {
            return plus(new Fraction(o.top.negate(), o.bottom));
        }

        Fraction over(long n) {
            return reduced(top, bottom.multiply(BigInteger.valueOf(n)));
        }

        Fraction abs() {
            return new Fraction(top.abs(), bottom);
        }

        @Override
        public int compareTo(Fraction o) {
            return top.multiply(o.bottom).compareTo(o.top.multiply(bottom));
        }

        long floorTimes(long n) {
            return top.multiply(BigInteger.valueOf(n)).divide(bottom).longValueExact();
        }
    }

    private static final Fraction ZERO = Fraction.of(0, 1);
    private static final Fraction ONE = Fraction.of(1, 1);
    static final int[] LEAST = {0, 1, 0, 10000, 1, 0, 0, 0, 0, 0, 10000, 0, 0, 0, 0};
    static final int[] MOST = {
        10000, 50, 10000, 1000000, 600, 60000, 1439, 1439, 10000, 100000000, 1000000, 99, 99, 1000000, 10000
    };

    static final class Tariff {
        int kind;
        int[] v = {300, 1, 20, 100000, 30, 5000, 1320, 360, 30, 10000000, 50000, 0, 1, 4000, 100};

        boolean has(int what) {
            if (what >= 0 && what <= 5) {
                return true;
            }
            switch (kind) {
                case 1:
                    return what == 6 || what == 7 || what == 8;
                case 2:
                    return what == 9 || what == 10;
                case 3:
                    return what >= 9 && what <= 13;
                case 4:
                    return what == 14;
                default:
                    return false;
            }
        }
    }

    /** One thing that was done in a hire, at a second of it. */
    record Deed(int second, int tariff, int amount) {
    }

    static final class Hire {
        int number;
        int first;
        int at;
        int zone;
        int endZone = -1;
        int begin;
        int seconds;
        Fraction way = ZERO;
        long fare;
        int steps;
        int paid;
        Fraction part = ZERO;
        int extras;
        boolean runs = true;
        boolean stands = true;
        boolean sealed = true;
        boolean flat;
        boolean settled;
        int hands;
        List<Integer> dark = new ArrayList<>();
        List<Deed> deeds = new ArrayList<>();
        Set<Integer> called = new HashSet<>();
        Set<Integer> sealsThen = new HashSet<>();

        Hire copy() {
            Hire h = new Hire();
            h.number = number;
            h.first = first;
            h.at = at;
            h.zone = zone;
            h.endZone = endZone;
            h.begin = begin;
            h.seconds = seconds;
            h.way = way;
            h.fare = fare;
            h.steps = steps;
            h.paid = paid;
            h.part = part;
            h.extras = extras;
            h.runs = runs;
            h.stands = stands;
            h.sealed = sealed;
            h.flat = flat;
            h.settled = settled;
            h.hands = hands;
            h.dark = new ArrayList<>(dark);
            h.deeds = new ArrayList<>(deeds);
            h.called = new HashSet<>(called);
            h.sealsThen = new HashSet<>(sealsThen);
            return h;
        }
    }

    private int round = 2000;
    private int teeth = 4;
    private final int[][] rows = new int[64][];
    private final List<Tariff> tariffs = new ArrayList<>();
    private final List<Boolean> whole = new ArrayList<>();
    private final List<Integer> firstHires = new ArrayList<>();
    private final int[] sorts = new int[12];
    private final int[] held = new int[12];
    private final List<Hire> hires = new ArrayList<>();
    private Hire image;
    private final List<int[]> legs = new ArrayList<>();
    private Hire due;

    private Hire latest() {
        return hires.isEmpty() ? null : hires.get(hires.size() - 1);
    }

    private boolean runs() {
        return latest() != null && latest().runs;
    }

    private static boolean in(int v, int a, int b) {
        return a <= v && v <= b;
    }

    private static void state(boolean ok) {
        if (!ok) {
            throw new IllegalStateException();
        }
    }

    private static void arg(boolean ok) {
        if (!ok) {
            throw new IllegalArgumentException();
        }
    }

    private static void index(boolean ok) {
        if (!ok) {
            throw new IndexOutOfBoundsException();
        }
    }

    private static void such(boolean ok) {
        if (!ok) {
            throw new NoSuchElementException();
        }
    }

    int wheel(int m, int s, int t) {
        state(!runs());
        arg(in(s, 0, 20) && in(t, 1, 200) && m != Integer.MIN_VALUE);
        float power = 1f;
        for (int i = 0; i < s; i++) {
            power = power * 2f;
        }
        float f = (float) m / power;
        f = f * 1000f;
        int r = (int) f;
        arg(in(r, 100, 10000));
        round = r;
        teeth = t;
        return r;
    }

    boolean row(int r, int n) {
        index(in(r, 0, 63));
        arg(in(n, 0, 60));
        boolean was = rows[r] == null;
        rows[r] = new int[n];
        return was;
    }

    int pulse(int r, int i, int v) {
        arg(in(v, 0, 500));
        index(in(r, 0, 63));
        such(rows[r] != null);
        index(in(i, 0, rows[r].length - 1));
        int was = rows[r][i];
        rows[r][i] = v;
        return was;
    }

    int tear(int r, int n) {
        index(in(r, 0, 63));
        such(rows[r] != null);
        int was = rows[r].length;
        rows[r] = n < 0 ? null : Arrays.copyOf(rows[r], Math.min(n, was));
        return was;
    }

    int pulses(int r, int i) {
        index(in(r, 0, 63));
        return rows[r] == null || !in(i, 0, rows[r].length - 1) ? -1 : rows[r][i];
    }

    int tariff(int kind) {
        arg(in(kind, 0, 4));
        if (tariffs.size() == 12) {
            return -1;
        }
        Tariff t = new Tariff();
        t.kind = kind;
        tariffs.add(t);
        return tariffs.size() - 1;
    }

    int set(int tariff, int what, int v) {
        state(!runs());
        index(in(tariff, 0, tariffs.size() - 1));
        such(tariffs.get(tariff).has(what));
        arg(in(v, LEAST[what], MOST[what]));
        int was = tariffs.get(tariff).v[what];
        tariffs.get(tariff).v[what] = v;
        return was;
    }

    int number(int tariff, int what) {
        index(in(tariff, 0, tariffs.size() - 1));
        such(tariffs.get(tariff).has(what));
        return tariffs.get(tariff).v[what];
    }

    int slot(int slot, int sort, int n) {
        index(in(slot, 0, 11));
        arg(in(sort, 0, 2));
        such(sort == 0 || in(n, 0, (sort == 1 ? tariffs.size() : whole.size()) - 1));
        int was = kind(slot);
        sorts[slot] = sort;
        held[slot] = n;
        return was;
    }

    int kind(int slot) {
        index(in(slot, 0, 11));
        return sorts[slot] == 0 ? -1 : sorts[slot] == 2 ? 5 : tariffs.get(held[slot]).kind;
    }

    int seal() {
        if (whole.size() == 40) {
            return -1;
        }
        whole.add(true);
        firstHires.add(hires.size());
        return whole.size() - 1;
    }

    boolean breaks(int seal) {
        index(in(seal, 0, whole.size() - 1));
        boolean was = whole.set(seal, false);
        if (runs() && latest().sealsThen.contains(seal)) {
            latest().sealed = false;
        }
        return was;
    }

    boolean blow(int slot) {
        index(in(slot, 0, 11));
        such(sorts[slot] != 0);
        arg(sorts[slot] == 2);
        return breaks(held[slot]);
    }

    boolean sets(int seal) {
        index(in(seal, 0, whole.size() - 1));
        boolean was = whole.set(seal, true);
        if (!was) {
            firstHires.set(seal, hires.size());
        }
        return !was;
    }

    int since(int seal) {
        index(in(seal, 0, whole.size() - 1));
        return whole.get(seal) ? firstHires.get(seal) : -1;
    }

    private int tariffOf(int slot) {
        such(sorts[slot] != 0);
        arg(sorts[slot] == 1);
        return held[slot];
    }

    int hire(int slot, int zone, int minute, int second) {
        state(!runs());
        index(in(slot, 0, 11));
        arg(in(zone, 0, 99) && in(minute, 0, 1439) && in(second, 0, 59));
        Hire h = begin(tariffOf(slot), zone, minute * 60 + second);
        if (hires.size() == 4000) {
            return -1;
        }
        h.number = hires.size();
        for (int i = 0; i < whole.size(); i++) {
            h.sealsThen.add(i);
            h.sealed &= whole.get(i);
        }
        hires.add(h);
        return h.number;
    }

    private Hire begin(int tariff, int zone, int begin) {
        Hire h = new Hire();
        h.zone = zone;
        h.begin = begin;
        h.first = tariff;
        h.fare = tariffs.get(tariff).v[0];
        h.paid = tariffs.get(tariff).v[1] - 1;
        putAtHand(h, tariff);
        return h;
    }

    private void putAtHand(Hire h, int tariff) {
        h.at = tariff;
        Tariff t = tariffs.get(tariff);
        if (t.kind == 4 && h.called.add(tariff)) {
            h.fare += t.v[14];
            h.extras += t.v[14];
        }
    }

    private int tick(Hire h, Fraction w) {
        Tariff t = tariffs.get(h.at);
        int minute = (h.begin + h.seconds) / 60 % 1440;
        int price = t.v[2];
        if (t.kind == 1) {
            boolean night = false;
            for (int m = t.v[6]; m != t.v[7]; m = (m + 1) % 1440) {
                night |= m == minute;
            }
            price = night ? t.v[8] : price;
        }
        int length = t.v[3];
        if ((t.kind == 2 || t.kind == 3) && h.way.compareTo(Fraction.of(t.v[9], 1)) > 0) {
            length = t.v[10];
        }
        boolean byWay = w.compareTo(Fraction.of(t.v[5], 1)) > 0;
        h.part = h.part.plus(byWay ? w.over(length) : Fraction.of(1, t.v[4]));
        h.way = h.way.plus(w);
        h.seconds++;
        int steps = 0;
        while (h.part.compareTo(ONE) >= 0) {
            h.part = h.part.minus(ONE);
            steps++;
            if (h.paid == 0) {
                h.fare += price;
            } else {
                h.paid--;
            }
        }
        h.steps += steps;
        return steps;
    }

    private int tickByWheel(Hire h) {
        int p = pulses(h.seconds / 60, h.seconds % 60);
        if (p < 0) {
            h.dark.add(h.seconds);
        }
        h.stands = p == 0;
        return tick(h, Fraction.of((long) Math.max(p, 0) * round, teeth));
    }

    private void finish(Hire h, int zone) {
        h.runs = false;
        h.endZone = zone;
        Tariff t = tariffs.get(h.at);
        boolean zones = h.zone == t.v[11] && zone == t.v[12] || h.zone == t.v[12] && zone == t.v[11];
        if (t.kind == 3 && h.hands == 0 && zones) {
            h.flat = true;
            h.fare = t.v[13] + h.extras;
        }
    }

    int second() {
        state(runs() && latest().seconds < 3840);
        return tickByWheel(latest());
    }

    int run(int n) {
        state(runs());
        arg(in(n, 0, 3840));
        int done = 0;
        while (done < n && latest().seconds < 3840) {
            tickByWheel(latest());
            done++;
        }
        return done;
    }

    boolean hand(int slot) {
        state(runs() && latest().stands && latest().hands < 50);
        index(in(slot, 0, 11));
        int t = tariffOf(slot);
        Hire h = latest();
        if (t == h.at) {
            return false;
        }
        h.hands++;
        h.deeds.add(new Deed(h.seconds, t, 0));
        putAtHand(h, t);
        return true;
    }

    int extra(int amount) {
        state(runs());
        arg(in(amount, 0, 10000));
        Hire h = latest();
        h.deeds.add(new Deed(h.seconds, -1, amount));
        h.fare += amount;
        h.extras += amount;
        return h.extras;
    }

    long end(int zone) {
        state(runs());
        arg(in(zone, 0, 99));
        finish(latest(), zone);
        return latest().fare;
    }

    long pay(long amount) {
        state(latest() != null && !runs() && !latest().settled);
        arg(amount >= latest().fare);
        latest().settled = true;
        return amount - latest().fare;
    }

    long fare() {
        such(latest() != null);
        return latest().fare;
    }

    int part(int n) {
        such(latest() != null);
        arg(in(n, 1, 1000000));
        return (int) latest().part.floorTimes(n);
    }

    int about(int what) {
        such(latest() != null && in(what, 0, 16));
        Hire h = latest();
        int[] told = {
            h.number, h.runs ? 1 : 0, h.seconds, h.steps, h.paid, h.extras,
            (int) Math.min(Integer.MAX_VALUE, h.way.floorTimes(1)), h.dark.size(), h.runs && h.stands ? 1 : 0, h.at, h.hands,
            (h.begin + h.seconds) / 60 % 1440, h.sealed ? 1 : 0, h.zone, h.endZone, h.flat ? 1 : 0, h.settled ? 1 : 0
        };
        return told[what];
    }

    int dark(int i) {
        such(latest() != null && in(i, 0, latest().dark.size() - 1));
        return latest().dark.get(i);
    }

    int receipt(int h, int what) {
        such(in(h, 0, hires.size() - 1) && !hires.get(h).runs && in(what, 0, 3));
        Hire x = hires.get(h);
        int[] told = {(int) Math.min(Integer.MAX_VALUE, x.fare), x.steps, x.seconds, x.sealed ? 1 : 0};
        return told[what];
    }

    long again() {
        state(latest() != null && !runs());
        Hire old = latest();
        Hire h = begin(old.first, old.zone, old.begin);
        for (int t = 0; t <= old.seconds; t++) {
            for (Deed d : old.deeds) {
                if (d.second() == t) {
                    redo(h, d);
                }
            }
            if (t < old.seconds) {
                tickByWheel(h);
            }
        }
        finish(h, old.endZone);
        return h.fare;
    }

    private void redo(Hire h, Deed d) {
        if (d.tariff() >= 0) {
            h.hands++;
            putAtHand(h, d.tariff());
        } else {
            h.fare += d.amount();
            h.extras += d.amount();
        }
    }

    int leg(int speed, int seconds) {
        arg(in(speed, 0, 60000) && in(seconds, 1, 3840));
        int all = seconds;
        for (int[] leg : legs) {
            all += leg[1];
        }
        if (legs.size() == 20 || all > 3840) {
            return -1;
        }
        legs.add(new int[] {speed, seconds});
        return all;
    }

    int clear() {
        int n = legs.size();
        legs.clear();
        return n;
    }

    long should(int slot, int zone, int other, int minute, int second) {
        index(in(slot, 0, 11));
        arg(in(zone, 0, 99) && in(other, 0, 99) && in(minute, 0, 1439) && in(second, 0, 59));
        Hire h = begin(tariffOf(slot), zone, minute * 60 + second);
        for (int[] leg : legs) {
            for (int i = 0; i < leg[1]; i++) {
                tick(h, Fraction.of(leg[0], 1));
            }
        }
        finish(h, other);
        due = h;
        return h.fare;
    }

    int error() {
        state(latest() != null && due != null);
        return latest().steps - due.steps;
    }

    boolean within(int a, int b) {
        state(latest() != null && due != null);
        arg(in(a, 0, 1000000) && in(b, 1, 1000000));
        Fraction mine = latest().part.plus(Fraction.of(latest().steps, 1));
        Fraction its = due.part.plus(Fraction.of(due.steps, 1));
        return mine.minus(its).abs().compareTo(ONE.plus(Fraction.of(a, b))) <= 0;
    }

    /** The place of b's nearest a, to put random runs on the edge of within(). */
    int edge(int b) {
        if (latest() == null || due == null) {
            return 0;
        }
        Fraction mine = latest().part.plus(Fraction.of(latest().steps, 1));
        Fraction its = due.part.plus(Fraction.of(due.steps, 1));
        Fraction over = mine.minus(its).abs().minus(ONE);
        return over.top().signum() < 0 ? 0 : (int) Math.min(1000000, over.floorTimes(b));
    }

    int keep() {
        state(runs());
        image = latest().copy();
        return image.number;
    }

    int back() {
        state(runs() && image != null && image.number == latest().number);
        Hire h = image.copy();
        h.sealed = latest().sealed;
        hires.set(hires.size() - 1, h);
        return h.seconds;
    }
}
