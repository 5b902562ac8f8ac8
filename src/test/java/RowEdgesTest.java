/** The edges of 'Terms' 1 and of promises 1 to 6; each bench is about one sentence. */
public final class RowEdgesTest {
    private static final String DAY = "tariff 0; slot 0 1 0";
    private static final String LEAST = "-2147483648";
    private static final String GREATEST = "2147483647";

    public static void main(String[] args) {
        newObject();
        nothingShared();
        lastCall();
        round();
        wheelArguments();
        wheelAndHires();
        ways();
        row();
        pulse();
        pulseAhead();
        tear();
        pulses();
        rowsOfSeconds();
        darkSeconds();
        Bench.close();
    }

    private static void newObject() {
        Bench rows = new Bench("Promise 1: all rows are missing at first");
        for (int r = 0; r < 64; r++) {
            rows.due("pulses " + r + " 0 = -1; tear " + r + " 0 = NOSUCH; pulse " + r + " 0 0 = NOSUCH; row " + r + " 0 = 1; row " + r + " 0 = 0");
        }
        new Bench("Promise 1: at first ROUND is 2000 and TEETH are 4").due(DAY,
            "row 0 2; pulse 0 0 1; pulse 0 1 3; hire 0 0 0 0; second; about 6 = 500; second; about 6 = 2000");
        new Bench("Promise 1: no TARIFFS").due("number 0 0 = INDEX; set 0 0 300 = INDEX; slot 0 1 0 = NOSUCH; tariff 0 = 0");
        new Bench("Promise 1: no SEALS").due("breaks 0 = INDEX; sets 0 = INDEX; since 0 = INDEX; slot 0 2 0 = NOSUCH; seal = 0");
        Bench slots = new Bench("Promise 1: all SLOTS hold nothing");
        for (int slot = 0; slot < 12; slot++) {
            slots.due("kind " + slot + " = -1; blow " + slot + " = NOSUCH; hire " + slot + " 0 0 0 = NOSUCH; should " + slot + " 0 0 0 0 = NOSUCH");
        }
        new Bench("Promise 1: no hire").due(
            "second = STATE; run 0 = STATE; hand 0 = STATE; extra 0 = STATE; end 0 = STATE; pay 0 = STATE; fare = NOSUCH; part 1 = NOSUCH",
            "about 0 = NOSUCH; dark 0 = NOSUCH; receipt 0 0 = NOSUCH; again = STATE; keep = STATE; back = STATE", DAY, "hire 0 0 0 0 = 0");
        new Bench("Promise 1: no LEGS").due("clear = 0", DAY, "set 0 4 1; should 0 0 0 0 0 = 300; leg 0 1 = 1; should 0 0 0 0 0 = 320");
    }

    private static void nothingShared() {
        Bench one = new Bench("Promise 1: a new object is not touched by another one");
        Bench two = new Bench("Promise 1: nor is the other one by it");
        one.due("wheel 3 0 1; row 0 60; pulse 0 0 9; tariff 3; set 0 0 77; slot 0 1 0; seal; breaks 0; leg 1 1; hire 0 0 0 0; keep");
        two.due("pulses 0 0 = -1; tariff 0 = 0; number 0 0 = 300; kind 0 = -1; seal = 0; since 0 = 0; clear = 0; fare = NOSUCH",
            "slot 0 1 0; hire 0 5 0 0 = 0",
            "back = STATE; row 0 1; pulse 0 0 1; second; about 6 = 500");
        one.due("about 13 = 0; pulses 0 0 = 9; number 0 0 = 77; kind 0 = 3; since 0 = -1; clear = 1; fare = 77; second; about 6 = 27000; back = 0");
    }

    private static void lastCall() {
        new Bench("An object is used for 512 calls: the last one is answered as promised").due(DAY, "hire 0 0 0 0").times(508, "second").due("fare = 620");
    }

    private static void round() {
        new Bench("Promise 2: a ROUND of 100 is taken, one of 99 not").due("wheel 104858 20 4 = 100; wheel 104857 20 4 = ARGUMENT",
            "wheel 3 5 4 = ARGUMENT");
        new Bench("Promise 2: a ROUND of 10000 is taken, one of 10001 not").due(
            "wheel 10 0 4 = 10000; wheel 10486808 20 4 = 10000; wheel 10486809 20 4 = ARGUMENT; wheel 11 0 4 = ARGUMENT");
        new Bench("Promise 2: cut towards 0").due("wheel 13 7 4 = 101; wheel 1 3 4 = 125; wheel 127 6 4 = 1984; wheel 511 8 4 = 1996",
            "wheel 10485759 20 4 = 9999");
        new Bench("Promise 2: all as floats, whose rounding comes ahead of the cut").due("wheel 134955 14 4 = 8237; wheel 7997489 20 4 = 7627");
        new Bench("Promise 2: m 0 and below").due("wheel 0 0 4 = ARGUMENT; wheel 0 20 4 = ARGUMENT; wheel -1 0 4 = ARGUMENT",
            "wheel -2 0 4 = ARGUMENT; wheel -10 0 4 = ARGUMENT");
        new Bench("Promise 2: the least int is no number").due(
            "wheel " + LEAST + " 0 4 = ARGUMENT; wheel " + LEAST + " 20 4 = ARGUMENT; wheel -2147483647 20 4 = ARGUMENT");
        new Bench("Promise 2: the greatest int").due("wheel " + GREATEST + " 0 4 = ARGUMENT; wheel " + GREATEST + " 20 4 = ARGUMENT");
    }

    private static void wheelArguments() {
        new Bench("Promise 2: s is 0 to 20").due("wheel 2 0 4 = 2000; wheel 2097152 20 4 = 2000; wheel 4194304 21 4 = ARGUMENT",
            "wheel 1 -1 4 = ARGUMENT; wheel -2147483647 -1 4 = ARGUMENT",
            "wheel 2 32 4 = ARGUMENT; wheel 4 33 4 = ARGUMENT; wheel 2 -32 4 = ARGUMENT; wheel 2 " + LEAST + " 4 = ARGUMENT; wheel 2 "
                + GREATEST + " 4 = ARGUMENT");
        new Bench("Promise 2: teeth are 1 to 200").due("wheel 2 0 1 = 2000; wheel 2 0 200 = 2000; wheel 2 0 0 = ARGUMENT",
            "wheel 2 0 201 = ARGUMENT; wheel 2 0 -1 = ARGUMENT",
            "wheel 2 0 " + LEAST + " = ARGUMENT; wheel 2 0 " + GREATEST + " = ARGUMENT");
        new Bench("Promise 2: a refused wheel leaves ROUND and TEETH").due("wheel 6 0 3 = 6000; wheel 1 0 0 = ARGUMENT",
            "wheel 1 21 5 = ARGUMENT; wheel 11 0 5 = ARGUMENT",
            "wheel " + LEAST + " 0 5 = ARGUMENT; wheel 1 4 5 = ARGUMENT", DAY, "row 0 1; pulse 0 0 1; hire 0 0 0 0; wheel 5 0 5 = STATE; "
                + "second; about 6 = 2000");
    }

    private static void wheelAndHires() {
        new Bench("Promise 2: a hire runs").due(DAY, "wheel 3 0 1 = 3000; hire 0 0 0 0; wheel 2 0 4 = STATE; end 0; wheel 2 0 4 = 2000");
        new Bench("Promise 2: IllegalStateException is ahead of IllegalArgumentException").due(DAY, "hire 0 0 0 0",
            "wheel 2 -1 4 = STATE; wheel 2 21 4 = STATE; wheel 2 0 0 = STATE; wheel 2 0 201 = STATE; wheel 11 0 4 = STATE; "
                + "wheel 0 0 4 = STATE; wheel " + LEAST + " 0 4 = STATE",
            "end 0; wheel 2 21 4 = ARGUMENT");
    }

    private static void ways() {
        new Bench("Terms 1: a way is exact: thirds of a metre").due("wheel 1 0 3; row 0 3; pulse 0 0 1; pulse 0 1 1; pulse 0 2 1", DAY,
            "hire 0 0 0 0; second; about 6 = 333; second; about 6 = 666; second; about 6 = 1000");
        new Bench("Terms 1: the least way of a pulse, half a millimetre").due("wheel 104858 20 200 = 100; row 0 3; pulse 0 0 1",
            "pulse 0 1 1; pulse 0 2 1", DAY,
            "hire 0 0 0 0; second; about 6 = 0; second; about 6 = 1; second; about 6 = 1");
        new Bench("Terms 1: the greatest way of a second").due("wheel 10 0 1 = 10000; row 0 1; pulse 0 0 500", DAY,
            "set 0 3 1000000; hire 0 0 0 0; second = 5; about 6 = 5000000; part 1000000 = 0");
    }

    private static void row() {
        new Bench("Promise 3: rows are 0 to 63").due("row 0 1 = 1; row 63 1 = 1; row -1 1 = INDEX; row 64 1 = INDEX; row " + LEAST
            + " 1 = INDEX; row " + GREATEST + " 1 = INDEX");
        new Bench("Promise 3: n is 0 to 60").due("row 0 -1 = ARGUMENT; row 0 61 = ARGUMENT; row 0 " + LEAST + " = ARGUMENT; row 0 "
            + GREATEST + " = ARGUMENT; row 0 0 = 1; row 0 60 = 0");
        new Bench("Promise 3: a row of 60 numbers").due("row 9 60; pulses 9 59 = 0; pulses 9 60 = -1; pulse 9 59 1 = 0",
            "pulse 9 60 1 = INDEX; tear 9 60 = 60");
        new Bench("Promise 3: a row of no numbers is not missing").due("row 9 0 = 1; row 9 0 = 0; pulses 9 0 = -1; pulse 9 0 1 = INDEX",
            "tear 9 0 = 0; row 9 1 = 0");
        new Bench("Promise 3: all are 0, whatever it was").due("row 9 60; pulse 9 0 5; pulse 9 59 6; row 9 60 = 0; pulses 9 0 = 0; pulses 9 59 = 0",
            "pulse 9 59 6; tear 9 59; row 9 60; pulses 9 59 = 0; pulse 9 59 6; tear 9 -1; row 9 60 = 1; pulses 9 59 = 0; pulse 9 59 6; "
                + "row 9 0; row 9 60; pulses 9 59 = 0");
        new Bench("Promise 3: other rows stay").due("row 8 60; pulse 8 59 4; row 10 60; pulse 10 0 6; row 9 60; pulses 8 59 = 4",
            "pulses 10 0 = 6; row 9 3; pulses 8 59 = 4; pulses 10 0 = 6");
        new Bench("Promise 3: a refused row leaves it").due("row 9 -1 = ARGUMENT; row 9 61 = ARGUMENT; pulses 9 0 = -1",
            "pulse 9 0 0 = NOSUCH; row 9 2 = 1; pulse 9 1 7",
            "row 9 61 = ARGUMENT; row 9 -1 = ARGUMENT; pulses 9 1 = 7; pulses 9 2 = -1; tear 9 2 = 2");
        new Bench("Promise 3: a row may be laid while a hire runs").due(DAY, "hire 0 0 0 0; run 2; row 0 3 = 1; pulse 0 2 4; second",
            "about 6 = 2000; about 7 = 2");
    }

    private static void pulse() {
        new Bench("Promise 4: v is 0 to 500").due("row 0 1; pulse 0 0 500 = 0; pulse 0 0 501 = ARGUMENT; pulse 0 0 -1 = ARGUMENT; "
            + "pulse 0 0 " + LEAST + " = ARGUMENT",
            "pulse 0 0 " + GREATEST + " = ARGUMENT; pulse 0 0 65536 = ARGUMENT; pulses 0 0 = 500; pulse 0 0 0 = 500; pulse 0 0 0 = 0");
        new Bench("Promise 4: rows are 0 to 63").due("row 0 1; row 63 1; pulse 0 0 1 = 0; pulse 63 0 2 = 0; pulse -1 0 1 = INDEX",
            "pulse 64 0 1 = INDEX",
            "pulse " + LEAST + " 0 1 = INDEX; pulse " + GREATEST + " 0 1 = INDEX; pulses 0 0 = 1; pulses 63 0 = 2");
        new Bench("Promise 4: the first and the last number of a row").due("row 5 7; pulse 5 0 1 = 0; pulse 5 6 2 = 0",
            "pulse 5 -1 3 = INDEX; pulse 5 7 3 = INDEX",
            "pulse 5 " + LEAST + " 3 = INDEX; pulse 5 " + GREATEST + " 3 = INDEX; pulses 5 0 = 1; pulses 5 6 = 2; pulse 5 0 9 = 1; pulse 5 6 9 = 2");
        new Bench("Promise 4: number 59 is the last one of all").due("row 5 60; row 6 60; pulse 5 59 1 = 0; pulse 5 60 2 = INDEX",
            "pulse 6 -1 2 = INDEX; pulses 5 59 = 1; pulses 6 0 = 0");
        new Bench("Promise 4: a row of no numbers").due("row 5 0; pulse 5 0 1 = INDEX");
        new Bench("Promise 4: a torn row has no such number").due("row 5 9; tear 5 4; pulse 5 3 1 = 0; pulse 5 4 1 = INDEX; pulse 5 8 1 = INDEX");
        new Bench("Promise 4: it is missing").due("pulse 0 0 1 = NOSUCH; row 0 1; pulse 0 0 1 = 0; tear 0 -1; pulse 0 0 1 = NOSUCH",
            "pulse 0 59 1 = NOSUCH; pulses 0 0 = -1; row 0 1 = 1");
    }

    private static void pulseAhead() {
        new Bench("Promise 4: IllegalArgumentException is ahead of no such row").due(
            "pulse 64 0 501 = ARGUMENT; pulse -1 0 501 = ARGUMENT; pulse 64 0 -1 = ARGUMENT; pulse -1 0 -1 = ARGUMENT; pulse 64 0 500 = INDEX");
        new Bench("Promise 4: IllegalArgumentException is ahead of no such number").due(
            "row 0 3; pulse 0 3 501 = ARGUMENT; pulse 0 -1 501 = ARGUMENT; pulse 0 3 -1 = ARGUMENT; pulse 0 -1 -1 = ARGUMENT; pulse 0 3 500 = INDEX");
        new Bench("Promise 4: IllegalArgumentException is ahead of a missing row").due("pulse 0 0 501 = ARGUMENT",
            "pulse 0 0 -1 = ARGUMENT; pulse 0 0 500 = NOSUCH");
    }

    private static void tear() {
        new Bench("Promise 5: n is as many as it has, one fewer, one more").due("row 0 9; pulse 0 8 5; tear 0 10 = 9; tear 0 9 = 9",
            "pulses 0 8 = 5; tear 0 8 = 9; pulses 0 8 = -1; pulses 0 7 = 0; tear 0 8 = 8");
        new Bench("Promise 5: with fewer it keeps all, and no more").due("row 0 9; tear 0 60 = 9; pulses 0 9 = -1; tear 0 " + GREATEST
            + " = 9; pulses 0 9 = -1; pulses 0 8 = 0; tear 0 9 = 9");
        new Bench("Promise 5: n 0 leaves a row of no numbers").due("row 0 9; tear 0 0 = 9; pulses 0 0 = -1; pulse 0 0 1 = INDEX",
            "tear 0 0 = 0; row 0 1 = 0");
        new Bench("Promise 5: n below 0 makes it missing").due("row 0 9; tear 0 -1 = 9; pulse 0 0 1 = NOSUCH; row 0 8 = 1; tear 0 "
            + LEAST + " = 8; tear 0 0 = NOSUCH; row 0 0 = 1; tear 0 -1 = 0; row 0 0 = 1");
        new Bench("Promise 5: rows are 0 to 63").due("row 0 4; row 63 5; tear 0 4 = 4; tear 63 5 = 5; tear -1 1 = INDEX",
            "tear 64 1 = INDEX; tear -1 -1 = INDEX; tear 64 -1 = INDEX",
            "tear " + LEAST + " 0 = INDEX; tear " + GREATEST + " 0 = INDEX; tear 0 4 = 4; tear 63 5 = 5");
        new Bench("Promise 5: it is missing").due("tear 0 1 = NOSUCH; tear 0 0 = NOSUCH; tear 0 -1 = NOSUCH; row 0 1 = 1");
        new Bench("Promise 5: other rows stay").due("row 8 60; row 10 60; pulse 8 59 3; pulse 10 0 4; row 9 60; tear 9 0",
            "pulses 8 59 = 3; pulses 10 0 = 4; tear 9 -1; pulses 8 59 = 3; pulses 10 0 = 4");
    }

    private static void pulses() {
        new Bench("Promise 6: rows are 0 to 63").due("row 0 1; row 63 1; pulses 0 0 = 0; pulses 63 0 = 0; pulses -1 0 = INDEX; "
            + "pulses 64 0 = INDEX; pulses " + LEAST + " 0 = INDEX; pulses " + GREATEST + " 0 = INDEX",
            "pulses 64 -1 = INDEX; pulses -1 60 = INDEX");
        new Bench("Promise 6: NONE if it has no such number").due("row 4 60; row 5 7; row 6 60; pulse 4 59 8; pulse 6 0 9; pulse 5 6 1",
            "pulses 5 6 = 1; pulses 5 7 = -1; pulses 5 -1 = -1; pulses 5 59 = -1; pulses 5 60 = -1",
            "pulses 5 " + LEAST + " = -1; pulses 5 " + GREATEST + " = -1; pulses 4 60 = -1; pulses 6 -1 = -1");
        new Bench("Promise 6: NONE if it is missing").due("pulses 0 0 = -1; pulses 0 59 = -1; pulses 0 60 = -1; pulses 0 -1 = -1",
            "row 0 1; pulses 0 0 = 0; tear 0 -1; pulses 0 0 = -1");
        new Bench("Promise 6: a number of 0 is not NONE").due("row 0 1; pulses 0 0 = 0");
        new Bench("Promise 6: the greatest number").due("row 0 1; pulse 0 0 500; pulses 0 0 = 500");
    }

    private static void rowsOfSeconds() {
        new Bench("Terms 1: number t MOD 60 of row t / 60: seconds 0, 59, 60, 61").due(DAY,
            "row 0 60; row 1 60; pulse 0 0 2; pulse 0 59 4; pulse 1 0 8; pulse 1 1 16; hire 0 0 0 0; second; about 6 = 1000; run 58; about 6 = 1000",
            "second; about 6 = 3000; second; about 6 = 7000; second; about 6 = 15000; run 10; about 6 = 15000; about 7 = 0");
        new Bench("Terms 1: the last number of the last row tells second 3839").due(DAY,
            "row 62 60; row 63 60; pulse 62 59 1; pulse 63 0 2; pulse 63 58 4; pulse 63 59 8; hire 0 0 0 0; run 3779; about 6 = 0; "
                + "about 7 = 3720; second; about 6 = 500",
            "second; about 6 = 1500; run 57; about 6 = 1500; second; about 6 = 3500; about 2 = 3839; second; about 6 = 7500; "
                + "about 7 = 3720; second = STATE");
    }

    private static void darkSeconds() {
        new Bench("Terms 1: a second is dark if its row is missing").due(DAY, "row 1 60; hire 0 0 0 0; run 60; about 7 = 60; second; about 7 = 60");
        new Bench("Terms 1: a second is dark if its row has no such number").due(DAY, "row 0 59; row 1 0; row 2 1; hire 0 0 0 0; run 59",
            "about 7 = 0; second; about 7 = 1; dark 0 = 59",
            "run 60; about 7 = 61; dark 60 = 119; second; about 7 = 61; second; about 7 = 62; dark 61 = 121");
        new Bench("Terms 1: a dark second has 0 pulses, what was torn off does not count").due(DAY,
            "row 0 60; pulse 0 0 100; pulse 0 1 100; tear 0 1; hire 0 0 0 0; second; about 6 = 50000; second; about 6 = 50000; "
                + "about 7 = 1; part 30 = 16");
        new Bench("Terms 1: a second of 0 pulses is not dark").due(DAY, "row 0 1; hire 0 0 0 0; second; about 7 = 0; about 8 = 1");
    }
}
