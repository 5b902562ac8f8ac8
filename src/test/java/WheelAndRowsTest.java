/** Promises 1 to 6. */
public final class WheelAndRowsTest {
    public static void main(String[] args) {
        newObject();
        wheel();
        row();
        pulse();
        tear();
        pulses();
        Bench.close();
    }

    private static void newObject() {
        new Bench("1 nothing yet").due(
            "pulses 0 0 = -1; pulses 63 59 = -1; row 0 1 = 1; row 63 1 = 1",
            "number 0 0 = INDEX; kind 0 = -1; kind 11 = -1; since 0 = INDEX",
            "fare = NOSUCH; part 1 = NOSUCH; about 0 = NOSUCH; dark 0 = NOSUCH; receipt 0 0 = NOSUCH",
            "pay 0 = STATE; again = STATE; keep = STATE; back = STATE; second = STATE; end 0 = STATE; extra 0 = STATE",
            "error = STATE; within 0 1 = STATE; clear = 0; leg 1 1 = 1; tariff 0 = 0; seal = 0; slot 0 1 0; hire 0 0 0 0 = 0");
        new Bench("1 wheel at first, 500 mm a pulse").due(
            "tariff 0; slot 0 1 0; row 0 60; pulse 0 0 1; hire 0 0 0 0; second; about 6 = 500");
    }

    private static void wheel() {
        new Bench("2 wheel").due(
            "wheel 2 0 4 = 2000; wheel 3 1 1 = 1500; wheel 1 3 200 = 125; wheel 13 7 7 = 101; wheel 10 0 1 = 10000",
            "wheel 134955 14 1 = 8237; wheel 7997489 20 1 = 7627; wheel 104858 20 1 = 100; wheel 10485760 20 1 = 10000");
        new Bench("2 wheel, wrong").due(
            "wheel 11 0 1 = ARGUMENT; wheel 1 4 1 = ARGUMENT; wheel 0 0 1 = ARGUMENT; wheel -2 0 1 = ARGUMENT",
            "wheel 104857 20 1 = ARGUMENT; wheel 10487000 20 1 = ARGUMENT; wheel 2147483647 0 1 = ARGUMENT",
            "wheel -2147483648 0 1 = ARGUMENT; wheel -2147483648 20 1 = ARGUMENT",
            "wheel 2 -1 1 = ARGUMENT; wheel 2 21 1 = ARGUMENT; wheel 2097152 21 1 = ARGUMENT; wheel 2097152 20 1 = 2000; wheel 2 0 4; "
                + "wheel 2 32 1 = ARGUMENT",
            "wheel 2 0 0 = ARGUMENT; wheel 2 0 201 = ARGUMENT; wheel 2 0 -1 = ARGUMENT",
            "tariff 0; slot 0 1 0; row 0 60; pulse 0 0 3; hire 0 0 0 0; second; about 6 = 1500");
        new Bench("2 wheel and a hire").due(
            "wheel 1 0 3 = 1000; tariff 0; slot 0 1 0; row 0 60; pulse 0 0 1; pulse 0 1 1; pulse 0 2 1",
            "hire 0 0 0 0; wheel 2 0 4 = STATE; wheel 2 0 0 = STATE; second; about 6 = 333; second; about 6 = 666",
            "second; about 6 = 1000; end 0; wheel 2 0 1 = 2000; about 6 = 1000");
    }

    private static void row() {
        new Bench("3 row").due(
            "row 0 60 = 1; row 0 60 = 0; row 0 0 = 0; row 63 1 = 1; pulses 63 0 = 0; pulses 63 1 = -1",
            "row 5 3 = 1; pulse 5 2 9; row 5 4 = 0; pulses 5 2 = 0; pulses 5 3 = 0; pulses 5 4 = -1",
            "pulse 5 3 8; row 5 2 = 0; row 5 4 = 0; pulses 5 3 = 0; tear 5 -1; row 5 0 = 1");
        new Bench("3 row, wrong").due(
            "row -1 5 = INDEX; row 64 5 = INDEX; row 64 61 = INDEX; row -1 -1 = INDEX; row 0 61 = ARGUMENT; row 0 -1 = ARGUMENT",
            "pulses 0 0 = -1; row 0 1 = 1; pulse 0 0 4; row 0 61 = ARGUMENT; pulses 0 0 = 4");
    }

    private static void pulse() {
        new Bench("4 pulse").due(
            "row 0 60; pulse 0 0 1 = 0; pulse 0 0 500 = 1; pulse 0 0 0 = 500; pulse 0 59 7 = 0; pulses 0 59 = 7; pulses 0 0 = 0",
            "row 63 60; pulse 63 59 9 = 0; row 62 60; pulses 63 59 = 9; pulses 62 59 = 0; pulses 0 59 = 7");
        new Bench("4 pulse, wrong").due(
            "row 0 3; pulse 0 0 501 = ARGUMENT; pulse 0 0 -1 = ARGUMENT; pulse 64 0 501 = ARGUMENT; pulse 1 0 -1 = ARGUMENT",
            "pulse 64 0 1 = INDEX; pulse -1 0 1 = INDEX; pulse 0 3 1 = INDEX; pulse 0 -1 1 = INDEX; pulse 0 60 1 = INDEX",
            "pulse 1 0 1 = NOSUCH; pulse 63 0 1 = NOSUCH; pulses 0 0 = 0; row 2 0; pulse 2 0 1 = INDEX");
    }

    private static void tear() {
        new Bench("5 tear").due(
            "row 0 10; pulse 0 4 6; tear 0 20 = 10; tear 0 10 = 10; tear 0 5 = 10; pulses 0 4 = 6; pulses 0 5 = -1",
            "tear 0 4 = 5; pulses 0 4 = -1; pulse 0 4 1 = INDEX; tear 0 0 = 4; pulses 0 0 = -1; row 0 1 = 0",
            "tear 0 -1 = 1; row 0 1 = 1; tear 0 -2147483648 = 1; pulses 0 0 = -1; row 0 5 = 1; tear 0 2147483647 = 5");
        new Bench("5 tear, wrong").due(
            "tear 64 1 = INDEX; tear -1 1 = INDEX; tear 0 1 = NOSUCH; tear 0 -1 = NOSUCH; row 0 0; tear 0 -1 = 0; tear 0 0 = NOSUCH");
    }

    private static void pulses() {
        new Bench("6 pulses").due(
            "row 7 2; pulse 7 1 3; pulses 7 1 = 3; pulses 7 0 = 0; pulses 7 2 = -1; pulses 7 -1 = -1; pulses 7 2147483647 = -1",
            "pulses 6 0 = -1; pulses 6 -1 = -1; row 6 60; pulses 7 -1 = -1; pulses 64 0 = INDEX; pulses -1 0 = INDEX");
    }
}
