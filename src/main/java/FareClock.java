import java.util.Arrays;
import java.util.NoSuchElementException;

/** A hired car's meter and the inspector's bench beside it. */
public final class FareClock {
    public static final int NONE = -1;

    private static final int ROW_COUNT = 64;
    private static final int ROW_LENGTH = 60;
    private static final int MOST_SECONDS = 3840;
    private static final int MOST_PULSES = 500;
    private static final int MOST_TARIFFS = 12;
    private static final int MOST_SEALS = 40;
    private static final int SLOT_COUNT = 12;
    private static final int MOST_HIRES = 4000;
    private static final int MOST_HANDS = 50;
    private static final int MOST_LEGS = 20;
    private static final int MOST_ZONE = 99;
    private static final int DAY_MINUTES = 1440;
    private static final int MILLION = 1000000;

    private static final int HOLDS_NOTHING = 0;
    private static final int HOLDS_TARIFF = 1;
    private static final int HOLDS_SEAL = 2;
    private static final int SEAL_KIND = 5;

    private static final int FIRST_PRICE = 0;
    private static final int FIRST_STEPS = 1;
    private static final int STEP_PRICE = 2;
    private static final int LENGTH = 3;
    private static final int TIME = 4;
    private static final int SPEED = 5;
    private static final int NIGHT_FROM = 6;
    private static final int NIGHT_TO = 7;
    private static final int NIGHT_PRICE = 8;
    private static final int BEHIND = 9;
    private static final int FAR_LENGTH = 10;
    private static final int ONE_ZONE = 11;
    private static final int OTHER_ZONE = 12;
    private static final int FLAT_PRICE = 13;
    private static final int CALL_EXTRA = 14;

    private static final int[] NUMBER_AT_FIRST = {
        300, 1, 20, 100000, 30, 5000, 1320, 360, 30, 10000000, 50000, 0, 1, 4000, 100
    };
    private static final int[] NUMBER_LEAST = {
        0, 1, 0, 10000, 1, 0, 0, 0, 0, 0, 10000, 0, 0, 0, 0
    };
    private static final int[] NUMBER_MOST = {
        10000, 50, 10000, 1000000, 600, 60000, 1439, 1439, 10000, 100000000, 1000000, 99, 99, 1000000, 10000
    };

    private static final int RECEIPT_FIELDS = 4;

    private int round = 2000;
    private int teeth = 4;
    private final Rows rows = new Rows();
    private final Day[] tariffs = new Day[MOST_TARIFFS];
    private int tariffCount;
    private final int[] slotSorts = new int[SLOT_COUNT];
    private final int[] slotNumbers = new int[SLOT_COUNT];
    private final Seals seals = new Seals();
    private final Hire hire = new Hire();
    private int hireCount;
    private int[] receipts = new int[16 * RECEIPT_FIELDS];
    private final Meter image = new Meter();
    private int imageOf = NONE;
    private final Meter anew = new Meter();
    private final Track track = new Track();
    private final Meter due = new Meter();
    private boolean dueKnown;

    public FareClock() {
    }

    public int wheel(int m, int s, int teeth) throws IllegalStateException, IllegalArgumentException {
        refuseWhileHired();
        // The least int stands for what is no number.
        demand(m != Integer.MIN_VALUE && isFrom(s, 0, 20) && isFrom(teeth, 1, 200));
        float metres = (float) m / (float) (1 << s);
        int millimetres = (int) (metres * 1000f);
        demand(isFrom(millimetres, 100, 10000));
        this.round = millimetres;
        this.teeth = teeth;
        return millimetres;
    }

    public boolean row(int r, int n) throws IndexOutOfBoundsException, IllegalArgumentException {
        demandPlace(r, ROW_COUNT);
        demand(isFrom(n, 0, ROW_LENGTH));
        boolean wasMissing = rows.isMissing(r);
        rows.lay(r, n);
        return wasMissing;
    }

    public int pulse(int r, int i, int v)
            throws IllegalArgumentException, IndexOutOfBoundsException, NoSuchElementException {
        demand(isFrom(v, 0, MOST_PULSES));
        demandPlace(r, ROW_COUNT);
        demandSuch(!rows.isMissing(r));
        demandPlace(i, rows.lengths[r]);
        int before = rows.at(r, i);
        rows.put(r, i, v);
        return before;
    }

    public int tear(int r, int n) throws IndexOutOfBoundsException, NoSuchElementException {
        demandPlace(r, ROW_COUNT);
        demandSuch(!rows.isMissing(r));
        int before = rows.lengths[r];
        rows.lengths[r] = n < 0 ? NONE : Math.min(n, before);
        return before;
    }

    public int pulses(int r, int i) throws IndexOutOfBoundsException {
        demandPlace(r, ROW_COUNT);
        return rows.at(r, i);
    }

    public int tariff(int kind) throws IllegalArgumentException {
        demand(isFrom(kind, 0, 4));
        if (tariffCount >= MOST_TARIFFS) {
            return NONE;
        }
        tariffs[tariffCount] = newTariff(kind, tariffCount);
        tariffCount++;
        return tariffCount - 1;
    }

    public int set(int tariff, int what, int v)
            throws IllegalStateException, IndexOutOfBoundsException, NoSuchElementException, IllegalArgumentException {
        refuseWhileHired();
        demandPlace(tariff, tariffCount);
        demandSuch(tariffs[tariff].has(what));
        demand(isFrom(v, NUMBER_LEAST[what], NUMBER_MOST[what]));
        int before = tariffs[tariff].numbers[what];
        tariffs[tariff].numbers[what] = v;
        return before;
    }

    public int number(int tariff, int what) throws IndexOutOfBoundsException, NoSuchElementException {
        demandPlace(tariff, tariffCount);
        demandSuch(tariffs[tariff].has(what));
        return tariffs[tariff].numbers[what];
    }

    public int slot(int slot, int sort, int n)
            throws IndexOutOfBoundsException, IllegalArgumentException, NoSuchElementException {
        demandPlace(slot, SLOT_COUNT);
        demand(isFrom(sort, HOLDS_NOTHING, HOLDS_SEAL));
        demandSuch(sort != HOLDS_TARIFF || isFrom(n, 0, tariffCount - 1));
        demandSuch(sort != HOLDS_SEAL || isFrom(n, 0, seals.count - 1));
        int before = kindHeld(slot);
        slotSorts[slot] = sort;
        slotNumbers[slot] = n;
        return before;
    }

    public int kind(int slot) throws IndexOutOfBoundsException {
        demandPlace(slot, SLOT_COUNT);
        return kindHeld(slot);
    }

    public int seal() {
        if (seals.count >= MOST_SEALS) {
            return NONE;
        }
        return seals.add(hireCount);
    }

    public boolean breaks(int seal) throws IndexOutOfBoundsException {
        demandPlace(seal, seals.count);
        return breakSeal(seal);
    }

    public boolean blow(int slot) throws IndexOutOfBoundsException, NoSuchElementException, IllegalArgumentException {
        demandPlace(slot, SLOT_COUNT);
        demandSuch(slotSorts[slot] != HOLDS_NOTHING);
        demand(slotSorts[slot] == HOLDS_SEAL);
        return breakSeal(slotNumbers[slot]);
    }

    public boolean sets(int seal) throws IndexOutOfBoundsException {
        demandPlace(seal, seals.count);
        if (seals.whole[seal]) {
            return false;
        }
        seals.makeWhole(seal, hireCount);
        return true;
    }

    public int since(int seal) throws IndexOutOfBoundsException {
        demandPlace(seal, seals.count);
        return seals.whole[seal] ? seals.firstHires[seal] : NONE;
    }

    public int hire(int slot, int zone, int minute, int second)
            throws IllegalStateException, IndexOutOfBoundsException, IllegalArgumentException, NoSuchElementException {
        refuseWhileHired();
        demandPlace(slot, SLOT_COUNT);
        demandBeginning(zone, minute, second);
        Day first = tariffHeld(slot);
        if (hireCount >= MOST_HIRES) {
            return NONE;
        }
        hire.open(hireCount, first, zone, seals);
        hire.meter.start(first, minute * 60 + second, teeth);
        hireCount++;
        return hire.number;
    }

    public int second() throws IllegalStateException {
        demandHired();
        demandState(hire.meter.seconds < MOST_SECONDS);
        return hire.pass(rows, round);
    }

    public int run(int n) throws IllegalStateException, IllegalArgumentException {
        demandHired();
        demand(isFrom(n, 0, MOST_SECONDS));
        int count = Math.min(n, MOST_SECONDS - hire.meter.seconds);
        for (int i = 0; i < count; i++) {
            hire.pass(rows, round);
        }
        return count;
    }

    public boolean hand(int slot)
            throws IllegalStateException, IndexOutOfBoundsException, IllegalArgumentException, NoSuchElementException {
        demandHired();
        demandState(hire.meter.stands && hire.meter.hands < MOST_HANDS);
        demandPlace(slot, SLOT_COUNT);
        Day next = tariffHeld(slot);
        if (next == hire.meter.tariff) {
            return false;
        }
        hire.change(next);
        return true;
    }

    public int extra(int amount) throws IllegalStateException, IllegalArgumentException {
        demandHired();
        demand(isFrom(amount, 0, 10000));
        hire.meter.toldExtras += amount;
        hire.meter.charge(amount);
        return hire.meter.extras;
    }

    public long end(int zone) throws IllegalStateException, IllegalArgumentException {
        demandHired();
        demand(isFrom(zone, 0, MOST_ZONE));
        hire.close(zone);
        writeReceipt();
        return hire.meter.fare;
    }

    public long pay(long amount) throws IllegalStateException, IllegalArgumentException {
        refuseWhileHired();
        demandState(hireCount > 0 && !hire.isPaid);
        demand(amount >= hire.meter.fare);
        hire.isPaid = true;
        return amount - hire.meter.fare;
    }

    public long fare() throws NoSuchElementException {
        demandSuch(hireCount > 0);
        return hire.meter.fare;
    }

    public int part(int n) throws NoSuchElementException, IllegalArgumentException {
        demandSuch(hireCount > 0);
        demand(isFrom(n, 1, MILLION));
        return hire.meter.part.timesCut(n);
    }

    public int about(int what) throws NoSuchElementException {
        demandSuch(hireCount > 0 && isFrom(what, 0, 16));
        return hire.tell(what);
    }

    public int dark(int i) throws NoSuchElementException {
        demandSuch(hireCount > 0 && isFrom(i, 0, hire.meter.darkCount - 1));
        return hire.darkSeconds[i];
    }

    public int receipt(int h, int what) throws NoSuchElementException {
        int ended = hire.runs ? hireCount - 1 : hireCount;
        demandSuch(isFrom(h, 0, ended - 1) && isFrom(what, 0, RECEIPT_FIELDS - 1));
        return receipts[h * RECEIPT_FIELDS + what];
    }

    public long again() throws IllegalStateException {
        refuseWhileHired();
        demandState(hireCount > 0);
        hire.repeat(anew, rows, round, teeth);
        return anew.fare;
    }

    public int leg(int speed, int seconds) throws IllegalArgumentException {
        demand(isFrom(speed, 0, 60000) && isFrom(seconds, 1, MOST_SECONDS));
        if (track.count >= MOST_LEGS || track.length + seconds > MOST_SECONDS) {
            return NONE;
        }
        track.add(speed, seconds);
        return track.length;
    }

    public int clear() {
        int before = track.count;
        track.count = 0;
        track.length = 0;
        return before;
    }

    public long should(int slot, int zone, int other, int minute, int second)
            throws IndexOutOfBoundsException, IllegalArgumentException, NoSuchElementException {
        demandPlace(slot, SLOT_COUNT);
        demandBeginning(zone, minute, second);
        demand(isFrom(other, 0, MOST_ZONE));
        Day first = tariffHeld(slot);
        // A way told in millimetres is one of a wheel with a single tooth.
        due.start(first, minute * 60 + second, 1);
        track.drive(due);
        due.finish(zone, other);
        dueKnown = true;
        return due.fare;
    }

    public int error() throws IllegalStateException {
        demandState(hireCount > 0 && dueKnown);
        return hire.meter.steps - due.steps;
    }

    public boolean within(int a, int b) throws IllegalStateException, IllegalArgumentException {
        demandState(hireCount > 0 && dueKnown);
        demand(isFrom(a, 0, MILLION) && isFrom(b, 1, MILLION));
        return hire.meter.part.isNear(hire.meter.steps, due.part, due.steps, a, b);
    }

    public int keep() throws IllegalStateException {
        demandHired();
        image.become(hire.meter);
        imageOf = hire.number;
        return hire.number;
    }

    public int back() throws IllegalStateException {
        demandHired();
        demandState(imageOf == hire.number);
        // Dark seconds and hands behind the image's own are cut off by its counts.
        hire.meter.become(image);
        return image.seconds;
    }

    private static boolean isFrom(int v, int least, int most) {
        return v >= least && v <= most;
    }

    private static void demand(boolean holds) {
        if (!holds) {
            throw new IllegalArgumentException();
        }
    }

    private static void demandState(boolean holds) {
        if (!holds) {
            throw new IllegalStateException();
        }
    }

    private static void demandSuch(boolean holds) {
        if (!holds) {
            throw new NoSuchElementException();
        }
    }

    private static void demandPlace(int place, int count) {
        if (place < 0 || place >= count) {
            throw new IndexOutOfBoundsException();
        }
    }

    private void demandHired() {
        demandState(hire.runs);
    }

    private void refuseWhileHired() {
        demandState(!hire.runs);
    }

    private static void demandBeginning(int zone, int minute, int second) {
        demand(isFrom(zone, 0, MOST_ZONE) && isFrom(minute, 0, DAY_MINUTES - 1) && isFrom(second, 0, 59));
    }

    private static Day newTariff(int kind, int number) {
        switch (kind) {
            case 1:
                return new Night(number);
            case 2:
                return new Far(number);
            case 3:
                return new Flat(number);
            case 4:
                return new Call(number);
            default:
                return new Day(number);
        }
    }

    private int kindHeld(int slot) {
        switch (slotSorts[slot]) {
            case HOLDS_TARIFF:
                return tariffs[slotNumbers[slot]].kindNumber();
            case HOLDS_SEAL:
                return SEAL_KIND;
            default:
                return NONE;
        }
    }

    private Day tariffHeld(int slot) {
        demandSuch(slotSorts[slot] != HOLDS_NOTHING);
        demand(slotSorts[slot] == HOLDS_TARIFF);
        return tariffs[slotNumbers[slot]];
    }

    private boolean breakSeal(int seal) {
        boolean wasWhole = seals.whole[seal];
        seals.whole[seal] = false;
        if (hire.runs && seal < hire.sealCount) {
            hire.isSealed = false;
        }
        return wasWhole;
    }

    private void writeReceipt() {
        int at = hire.number * RECEIPT_FIELDS;
        if (at + RECEIPT_FIELDS > receipts.length) {
            receipts = Arrays.copyOf(receipts, receipts.length * 2);
        }
        receipts[at] = (int) Math.min(hire.meter.fare, Integer.MAX_VALUE);
        receipts[at + 1] = hire.meter.steps;
        receipts[at + 2] = hire.meter.seconds;
        receipts[at + 3] = hire.isSealed ? 1 : 0;
    }

    /** The rows of pulses; a row that is missing has the length NONE. */
    private static final class Rows {
        final short[] numbers = new short[ROW_COUNT * ROW_LENGTH];
        final int[] lengths = new int[ROW_COUNT];

        Rows() {
            Arrays.fill(lengths, NONE);
        }

        boolean isMissing(int r) {
            return lengths[r] == NONE;
        }

        void lay(int r, int n) {
            Arrays.fill(numbers, r * ROW_LENGTH, (r + 1) * ROW_LENGTH, (short) 0);
            lengths[r] = n;
        }

        int at(int r, int i) {
            return i >= 0 && i < lengths[r] ? numbers[r * ROW_LENGTH + i] : NONE;
        }

        void put(int r, int i, int v) {
            numbers[r * ROW_LENGTH + i] = (short) v;
        }

        /** The pulses of a second of a hire, NONE if it is dark. */
        int ofSecond(int t) {
            return at(t / ROW_LENGTH, t % ROW_LENGTH);
        }
    }

    /** The seals, each with the number of the first hire behind its being whole. */
    private static final class Seals {
        final boolean[] whole = new boolean[MOST_SEALS];
        final int[] firstHires = new int[MOST_SEALS];
        int count;

        Seals() {
        }

        int add(int nextHire) {
            makeWhole(count, nextHire);
            count++;
            return count - 1;
        }

        void makeWhole(int seal, int nextHire) {
            whole[seal] = true;
            firstHires[seal] = nextHire;
        }

        boolean areWhole() {
            for (int i = 0; i < count; i++) {
                if (!whole[i]) {
                    return false;
                }
            }
            return true;
        }
    }

    /** A tariff by day; the other kinds differ from it in what they override. */
    private static class Day {
        final int number;
        final int[] numbers = NUMBER_AT_FIRST.clone();

        Day(int number) {
            this.number = number;
        }

        int kindNumber() {
            return 0;
        }

        boolean has(int what) {
            return isFrom(what, FIRST_PRICE, SPEED);
        }

        int priceAt(int minute) {
            return numbers[STEP_PRICE];
        }

        /** The length that holds behind a way, told in parts of a millimetre, so many of which are one. */
        int lengthBehind(long way, int partsOfOne) {
            return numbers[LENGTH];
        }

        int extraOfCall() {
            return 0;
        }

        boolean isFlatBetween(int zone, int other) {
            return false;
        }
    }

    private static final class Night extends Day {
        Night(int number) {
            super(number);
        }

        @Override
        int kindNumber() {
            return 1;
        }

        @Override
        boolean has(int what) {
            return super.has(what) || isFrom(what, NIGHT_FROM, NIGHT_PRICE);
        }

        @Override
        int priceAt(int minute) {
            return isNightAt(minute) ? numbers[NIGHT_PRICE] : numbers[STEP_PRICE];
        }

        private boolean isNightAt(int minute) {
            int from = numbers[NIGHT_FROM];
            int to = numbers[NIGHT_TO];
            return to < from ? minute >= from || minute < to : minute >= from && minute < to;
        }
    }

    private static class Far extends Day {
        Far(int number) {
            super(number);
        }

        @Override
        int kindNumber() {
            return 2;
        }

        @Override
        boolean has(int what) {
            return super.has(what) || isFrom(what, BEHIND, FAR_LENGTH);
        }

        @Override
        int lengthBehind(long way, int partsOfOne) {
            return way > (long) numbers[BEHIND] * partsOfOne ? numbers[FAR_LENGTH] : numbers[LENGTH];
        }
    }

    private static final class Flat extends Far {
        Flat(int number) {
            super(number);
        }

        @Override
        int kindNumber() {
            return 3;
        }

        @Override
        boolean has(int what) {
            return super.has(what) || isFrom(what, ONE_ZONE, FLAT_PRICE);
        }

        @Override
        boolean isFlatBetween(int zone, int other) {
            int one = numbers[ONE_ZONE];
            int two = numbers[OTHER_ZONE];
            return zone == one && other == two || zone == two && other == one;
        }
    }

    private static final class Call extends Day {
        Call(int number) {
            super(number);
        }

        @Override
        int kindNumber() {
            return 4;
        }

        @Override
        boolean has(int what) {
            return super.has(what) || what == CALL_EXTRA;
        }

        @Override
        int extraOfCall() {
            return numbers[CALL_EXTRA];
        }
    }

    /** The legs of told ways. */
    private static final class Track {
        final int[] speeds = new int[MOST_LEGS];
        final int[] spans = new int[MOST_LEGS];
        int count;
        int length;

        Track() {
        }

        void add(int speed, int span) {
            speeds[count] = speed;
            spans[count] = span;
            count++;
            length += span;
        }

        void drive(Meter meter) {
            for (int i = 0; i < count; i++) {
                for (int t = 0; t < spans[i]; t++) {
                    meter.tick(speeds[i]);
                }
            }
        }
    }

    /** What is counted of a hire, be it by the wheel, anew, or by a track; an image is one, too. */
    private static final class Meter {
        final Part part = new Part();
        Day tariff;
        int beganAt;
        int partsOfOne;
        int seconds;
        /** In parts of a millimetre, partsOfOne of which are one, so that it is exact. */
        long way;
        long fare;
        int steps;
        int paidSteps;
        int extras;
        int toldExtras;
        int calledTariffs;
        int hands;
        int darkCount;
        boolean stands;

        Meter() {
        }

        void start(Day first, int secondOfDay, int wayPartsOfOne) {
            part.empty();
            beganAt = secondOfDay;
            partsOfOne = wayPartsOfOne;
            seconds = 0;
            way = 0;
            fare = first.numbers[FIRST_PRICE];
            steps = 0;
            paidSteps = first.numbers[FIRST_STEPS] - 1;
            extras = 0;
            toldExtras = 0;
            calledTariffs = 0;
            hands = 0;
            darkCount = 0;
            stands = true;
            take(first);
        }

        /** Puts a tariff at hand; that of a call brings its extra once. */
        void take(Day next) {
            tariff = next;
            int mark = 1 << next.number;
            if ((calledTariffs & mark) == 0) {
                calledTariffs |= mark;
                charge(next.extraOfCall());
            }
        }

        void takeByHand(Day next) {
            hands++;
            take(next);
        }

        void charge(int amount) {
            extras += amount;
            fare += amount;
        }

        /** A second with a way, told in parts of a millimetre: the steps that fell due. */
        int tick(int moved) {
            int price = tariff.priceAt(minuteOfDay());
            int fallen;
            if (moved > tariff.numbers[SPEED] * partsOfOne) {
                fallen = part.add(moved, tariff.lengthBehind(way, partsOfOne) * partsOfOne);
            } else {
                fallen = part.add(1, tariff.numbers[TIME]);
            }
            way += moved;
            seconds++;
            steps += fallen;
            int free = Math.min(fallen, paidSteps);
            paidSteps -= free;
            fare += (long) (fallen - free) * price;
            return fallen;
        }

        int minuteOfDay() {
            return (beganAt + seconds) / 60 % DAY_MINUTES;
        }

        /** The end of the hire: whether it is charged a flat price. */
        boolean finish(int zone, int other) {
            boolean isFlat = hands == 0 && tariff.isFlatBetween(zone, other);
            if (isFlat) {
                fare = (long) tariff.numbers[FLAT_PRICE] + extras;
            }
            return isFlat;
        }

        int wholeMillimetres() {
            if (partsOfOne < 1) {
                return 0;
            }
            return (int) Math.min(way / partsOfOne, Integer.MAX_VALUE);
        }

        void become(Meter other) {
            part.become(other.part);
            tariff = other.tariff;
            beganAt = other.beganAt;
            partsOfOne = other.partsOfOne;
            seconds = other.seconds;
            way = other.way;
            fare = other.fare;
            steps = other.steps;
            paidSteps = other.paidSteps;
            extras = other.extras;
            toldExtras = other.toldExtras;
            calledTariffs = other.calledTariffs;
            hands = other.hands;
            darkCount = other.darkCount;
            stands = other.stands;
        }
    }

    /** The hire that runs, or the latest one. */
    private static final class Hire {
        final Meter meter = new Meter();
        final short[] darkSeconds = new short[MOST_SECONDS];
        final int[] handSeconds = new int[MOST_HANDS];
        final Day[] handTariffs = new Day[MOST_HANDS];
        Day first;
        int number = NONE;
        boolean runs;
        int zone;
        int endZone;
        int sealCount;
        boolean isSealed;
        boolean isFlat;
        boolean isPaid;

        Hire() {
        }

        void open(int hireNumber, Day tariff, int beginZone, Seals seals) {
            first = tariff;
            number = hireNumber;
            runs = true;
            zone = beginZone;
            endZone = NONE;
            sealCount = seals.count;
            isSealed = seals.areWhole();
            isFlat = false;
            isPaid = false;
        }

        int pass(Rows rows, int round) {
            int pulses = rows.ofSecond(meter.seconds);
            if (pulses == NONE) {
                darkSeconds[meter.darkCount] = (short) meter.seconds;
                meter.darkCount++;
            }
            meter.stands = pulses == 0;
            return meter.tick(Math.max(pulses, 0) * round);
        }

        void change(Day next) {
            handSeconds[meter.hands] = meter.seconds;
            handTariffs[meter.hands] = next;
            meter.takeByHand(next);
        }

        void close(int otherZone) {
            isFlat = meter.finish(zone, otherZone);
            endZone = otherZone;
            runs = false;
        }

        /** Runs the hire that has ended once more, by another meter. */
        void repeat(Meter other, Rows rows, int round, int teeth) {
            other.start(first, meter.beganAt, teeth);
            int next = 0;
            for (int t = 0; t <= meter.seconds; t++) {
                for (; next < meter.hands && handSeconds[next] == t; next++) {
                    other.takeByHand(handTariffs[next]);
                }
                if (t < meter.seconds) {
                    other.tick(Math.max(rows.ofSecond(t), 0) * round);
                }
            }
            // At which second an amount was told does not change what it adds.
            other.charge(meter.toldExtras);
            other.finish(zone, endZone);
        }

        int tell(int what) {
            switch (what) {
                case 0:
                    return number;
                case 1:
                    return runs ? 1 : 0;
                case 2:
                    return meter.seconds;
                case 3:
                    return meter.steps;
                case 4:
                    return meter.paidSteps;
                case 5:
                    return meter.extras;
                case 6:
                    return meter.wholeMillimetres();
                case 7:
                    return meter.darkCount;
                case 8:
                    return runs && meter.stands ? 1 : 0;
                case 9:
                    return meter.tariff.number;
                case 10:
                    return meter.hands;
                case 11:
                    return meter.minuteOfDay();
                case 12:
                    return isSealed ? 1 : 0;
                case 13:
                    return zone;
                case 14:
                    return endZone;
                case 15:
                    return isFlat ? 1 : 0;
                case 16:
                    return isPaid ? 1 : 0;
                default:
                    return NONE;
            }
        }
    }

    /** An exact part from 0 to less than 1: top / bottom, both in limbs of 30 bits, the lowest one first. */
    private static final class Part {
        /**
         * Twelve tariffs have at most 24 lengths and 12 times, and a wheel up to 200 teeth: bottom stays
         * below 200 * 1000000^24 * 600^12, which takes 20 limbs.
         */
        private static final int ROOM = 24;
        private static final int BITS = 30;
        private static final int MASK = (1 << BITS) - 1;

        private final int[] top = new int[ROOM];
        private final int[] bottom = new int[ROOM];
        private final int[] share = new int[ROOM];
        /** Limbs in use; the highest one of bottom is 0, so that up to 2^30 bottoms together have room. */
        private int size = 2;

        Part() {
            bottom[0] = 1;
        }

        void empty() {
            Arrays.fill(top, 0);
            Arrays.fill(bottom, 0);
            bottom[0] = 1;
            size = 2;
        }

        void become(Part other) {
            System.arraycopy(other.top, 0, top, 0, ROOM);
            System.arraycopy(other.bottom, 0, bottom, 0, ROOM);
            size = other.size;
        }

        /** Adds n / d: the wholes that this makes are taken out again, and answered. */
        int add(int n, int d) {
            if (d < 1) {
                return 0;
            }
            int wholes = n / d;
            int rest = n % d;
            if (rest == 0) {
                return wholes;
            }
            findShare(d);
            addTimes(top, share, size, rest);
            if (compare(top, bottom, size) < 0) {
                return wholes;
            }
            subtract(top, bottom, size);
            return wholes + 1;
        }

        /** This part times n, cut down; n has at most 20 bits. */
        int timesCut(int n) {
            int[] rest = share;
            Arrays.fill(rest, 0);
            int cut = 0;
            for (int bit = 19; bit >= 0; bit--) {
                multiply(rest, size, 2);
                cut *= 2;
                if ((n >> bit & 1) == 1) {
                    addTimes(rest, top, size, 1);
                }
                // Twice the rest and the part are less than three wholes.
                for (int i = 0; i < 2 && compare(rest, bottom, size) >= 0; i++) {
                    subtract(rest, bottom, size);
                    cut++;
                }
            }
            return cut;
        }

        /** Whether so many wholes and this part differ from others by at most 1 and a / b. */
        boolean isNear(int wholes, Part other, int otherWholes, int a, int b) {
            // All three over the one bottom that is the product of both and b.
            int[] mine = product(totalTop(wholes), other.bottom, b);
            int[] its = product(other.totalTop(otherWholes), bottom, b);
            int[] allowed = product(bottom, other.bottom, a + b);
            boolean isMore = compare(mine, its, 2 * ROOM) >= 0;
            int[] greater = isMore ? mine : its;
            subtract(greater, isMore ? its : mine, 2 * ROOM);
            return compare(greater, allowed, 2 * ROOM) <= 0;
        }

        /** The top, over the same bottom, of so many wholes and this part. */
        private int[] totalTop(int wholes) {
            int[] total = top.clone();
            addTimes(total, bottom, ROOM, wholes);
            return total;
        }

        /** Makes share the d-th part of bottom, which is widened first if d does not divide it. */
        private void findShare(int d) {
            int left = divide(bottom, size, d, share);
            if (left == 0) {
                return;
            }
            int common = commonDivisor(d, left);
            widen(common < 1 ? d : d / common);
            divide(bottom, size, d, share);
        }

        private void widen(int factor) {
            multiply(top, size, factor);
            multiply(bottom, size, factor);
            if (bottom[size - 1] != 0 && size < ROOM) {
                size++;
            }
        }

        private static void multiply(int[] a, int size, int factor) {
            long carry = 0;
            for (int i = 0; i < size && i < a.length; i++) {
                carry += (long) a[i] * factor;
                a[i] = (int) (carry & MASK);
                carry >>= BITS;
            }
        }

        private static void addTimes(int[] a, int[] b, int size, int factor) {
            long carry = 0;
            for (int i = 0; i < size && i < a.length && i < b.length; i++) {
                carry += a[i] + (long) b[i] * factor;
                a[i] = (int) (carry & MASK);
                carry >>= BITS;
            }
        }

        private static void subtract(int[] a, int[] b, int size) {
            addTimes(a, b, size, -1);
        }

        private static int compare(int[] a, int[] b, int size) {
            for (int i = Math.min(size, Math.min(a.length, b.length)) - 1; i >= 0; i--) {
                if (a[i] != b[i]) {
                    return a[i] < b[i] ? -1 : 1;
                }
            }
            return 0;
        }

        /** Writes a / divisor, cut down, into quotient: what is left. */
        private static int divide(int[] a, int size, int divisor, int[] quotient) {
            if (divisor < 1) {
                return 0;
            }
            long left = 0;
            for (int i = Math.min(size, Math.min(a.length, quotient.length)) - 1; i >= 0; i--) {
                left = left << BITS | a[i];
                quotient[i] = (int) (left / divisor);
                left %= divisor;
            }
            return (int) left;
        }

        private static int[] product(int[] a, int[] b, int factor) {
            int[] made = new int[2 * ROOM];
            for (int i = 0; i < ROOM && i < a.length; i++) {
                long carry = 0;
                for (int j = 0; j < ROOM && j < b.length; j++) {
                    carry += made[i + j] + (long) a[i] * b[j];
                    made[i + j] = (int) (carry & MASK);
                    carry >>= BITS;
                }
                made[i + ROOM] = (int) carry;
            }
            multiply(made, 2 * ROOM, factor);
            return made;
        }

        private static int commonDivisor(int one, int two) {
            int a = one;
            int b = two;
            // Two ints need fewer than 48 steps.
            for (int i = 0; i < 64 && b != 0; i++) {
                int left = a % b;
                a = b;
                b = left;
            }
            return a;
        }
    }
}
