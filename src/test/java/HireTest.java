/** Promises 17 to 22 and the counting of a hire. */
public final class HireTest {
    /** A wheel of 10 metres and one tooth: 10000 mm a pulse. */
    private static final String BIG_WHEEL = "wheel 10 0 1";
    private static final String DAY = "tariff 0; slot 0 1 0";

    public static void main(String[] args) {
        hire();
        second();
        speed();
        exactParts();
        run();
        night();
        far();
        hand();
        handAndParts();
        calls();
        extra();
        end();
        flat();
        Bench.close();
    }

    private static void hire() {
        new Bench("17 hire, wrong").due(
            "hire 0 0 0 0 = NOSUCH; hire -1 0 0 0 = INDEX; hire 12 0 0 0 = INDEX; hire 12 100 0 0 = INDEX; hire -1 0 0 60 = INDEX",
            "hire 0 100 0 0 = ARGUMENT; hire 0 -1 0 0 = ARGUMENT; hire 0 0 1440 0 = ARGUMENT; hire 0 0 -1 0 = ARGUMENT",
            "hire 0 0 0 60 = ARGUMENT; hire 0 0 0 -1 = ARGUMENT; seal; slot 1 2 0; hire 1 0 0 0 = ARGUMENT; hire 1 0 0 60 = ARGUMENT",
            "fare = NOSUCH", DAY, "hire 0 100 0 0 = ARGUMENT; fare = NOSUCH");
        new Bench("17 hire").due(DAY,
            "hire 0 99 1439 59 = 0; hire 0 0 0 0 = STATE; hire 12 0 0 0 = STATE; hire 0 100 0 0 = STATE; hire 5 0 0 0 = STATE",
            "fare = 300; about 3 = 0; about 4 = 0; about 5 = 0; about 13 = 99; about 11 = 1439; end 0; hire 0 0 0 0 = 1; end 0; hire 0 0 0 0 = 2");
        new Bench("17 the slot may change in the hire").due(DAY,
            "hire 0 0 0 0; slot 0 0 0; run 30; fare = 320; hand 0 = STATE; tariff 3; about 9 = 0");
        new Bench("17 first price and first steps").due(DAY,
            "set 0 0 0; set 0 1 50; hire 0 0 0 0; fare = 0; about 4 = 49; end 0; set 0 0 10000; set 0 1 1; hire 0 0 0 0; fare = 10000; about 4 = 0");
    }

    private static void second() {
        new Bench("18 second").due("second = STATE", DAY, BIG_WHEEL,
            "set 0 3 10000; row 0 60; pulse 0 0 500; pulse 0 1 1; hire 0 0 0 0; second = 500; fare = 10300; about 3 = 500; part 1000000 = 0",
            "second = 1; second = 0; part 30 = 1; about 2 = 3; end 0; second = STATE");
        new Bench("18 paid steps come ahead of the price").due(DAY,
            "set 0 1 3; set 0 4 1; hire 0 0 0 0; about 4 = 2; second = 1; fare = 300; about 4 = 1; second = 1; fare = 300; about 4 = 0",
            "second = 1; fare = 320; about 3 = 3; about 4 = 0");
        new Bench("18 paid steps within one second").due(DAY, BIG_WHEEL,
            "set 0 1 50; set 0 3 10000; row 0 60; pulse 0 0 40; pulse 0 1 40; hire 0 0 0 0; second = 40; fare = 300; about 4 = 9",
            "second = 40; fare = 920; about 4 = 0");
        new Bench("18 the 3840th second is the last one").due(DAY,
            "hire 0 0 0 0; run 3839 = 3839; second = 1; second = STATE; about 2 = 3840; run 1 = 0; run 0 = 0; about 7 = 3840; "
                + "dark 3839 = 3839; dark 3840 = NOSUCH",
            "about 3 = 128; fare = 2860; end 0 = 2860");
        new Bench("18 a second is told by its row and number").due(DAY,
            "row 1 2; pulse 1 0 40; pulse 1 1 60; row 0 60; pulse 0 59 20; hire 0 0 0 0; run 59; about 6 = 0; second; about 6 = 10000",
            "second; about 6 = 30000; second; about 6 = 60000; about 7 = 0; second; about 6 = 60000; about 7 = 1; dark 0 = 62");
    }

    private static void speed() {
        new Bench("18 more than the speed, or not").due(DAY,
            "row 0 60; pulse 0 0 10; pulse 0 1 11; hire 0 0 0 0; second; part 30 = 1; part 1000000 = 33333; second; part 1000000 = 88333",
            "about 6 = 10500");
        new Bench("18 a way that is no whole number").due(DAY,
            "wheel 1 0 3; set 0 3 10000; set 0 5 333; row 0 60; pulse 0 0 1; hire 0 0 0 0; second; part 30 = 1; part 600 = 20; end 0",
            "set 0 5 334; set 0 4 7; hire 0 0 0 0; second; part 7 = 1; part 6 = 0");
        new Bench("18 at speed 0 a second without pulses goes by time").due(DAY,
            "set 0 5 0; set 0 4 2; set 0 3 1000000; row 0 60; pulse 0 1 1; hire 0 0 0 0; second; part 2 = 1; second; part 2000 = 1001");
    }

    private static void exactParts() {
        new Bench("18 three thirds are one").due(DAY,
            "set 0 4 3; hire 0 0 0 0; run 2; part 3 = 2; part 1000000 = 666666; second = 1; part 1000000 = 0; about 3 = 1");
        new Bench("18 sevenths by time and by way").due(DAY, BIG_WHEEL,
            "set 0 4 7; set 0 3 70000; row 0 60; pulse 0 3 4; hire 0 0 0 0; run 3; part 7 = 3; second = 1; part 1000000 = 0; part 1 = 0");
        new Bench("18 thirty pulses of a third of a metre").due(DAY,
            "wheel 1 0 3; set 0 3 10000; set 0 5 0; row 0 60").times(1, pulsesOfOne(60)).due(
            "hire 0 0 0 0; run 29; about 3 = 0; part 30 = 29; second = 1; part 1000000 = 0; run 29; about 3 = 1; second = 1");
    }

    private static String pulsesOfOne(int n) {
        StringBuilder calls = new StringBuilder("pulse 0 0 1");
        for (int i = 1; i < n; i++) {
            calls.append("; pulse 0 ").append(i).append(" 1");
        }
        return calls.toString();
    }

    private static void run() {
        new Bench("19 run").due("run 0 = STATE; run -1 = STATE", DAY,
            "hire 0 0 0 0; run -1 = ARGUMENT; run 3841 = ARGUMENT; run 0 = 0; about 8 = 1; run 100 = 100; run 3840 = 3740; run 3840 = 0",
            "run 3841 = ARGUMENT; about 2 = 3840; end 0; run 1 = STATE");
    }

    private static void night() {
        String setUp = "tariff 1; slot 0 1 0; set 0 4 1; set 0 0 0; set 0 8 7";
        new Bench("18 night over midnight").due(setUp,
            "hire 0 0 1319 59; about 11 = 1319; second; fare = 20; about 11 = 1320; second; fare = 27; end 0",
            "hire 0 0 1439 59; second; fare = 7; about 11 = 0; second; fare = 14; about 11 = 0; end 0",
            "hire 0 0 359 58; second; second; fare = 14; about 11 = 360; second; fare = 34; end 0");
        new Bench("18 night within a day").due(setUp, "set 0 6 100; set 0 7 101",
            "hire 0 0 99 59; second; fare = 20; run 60; fare = 440; second; fare = 460; end 0; hire 0 0 0 0; second; fare = 20");
        new Bench("18 never night").due(setUp, "set 0 6 100; set 0 7 100",
            "hire 0 0 100 0; second; fare = 20; end 0; hire 0 0 99 59; run 62; fare = 1240");
        new Bench("18 a day has no night, and a step has the price of its second").due(
            "tariff 0; slot 0 1 0; set 0 0 0; set 0 4 1; hire 0 0 1400 0; second; fare = 20; end 0; tariff 1; slot 0 1 1; set 1 0 0; set 1 4 2",
            "hire 0 0 1319 59; second; fare = 0; second; fare = 30");
    }

    private static void far() {
        String setUp = "slot 0 1 0; set 0 9 20000; row 0 60; pulse 0 0 1; pulse 0 1 1; pulse 0 2 1; pulse 0 3 1";
        for (int kind = 2; kind <= 3; kind++) {
            new Bench("18 far, kind " + kind).due(BIG_WHEEL, "tariff " + kind, setUp,
                "hire 0 0 0 0; second; part 100 = 10; second; part 100 = 20; about 6 = 20000; second; part 100 = 30; second; part 100 = 50");
        }
        new Bench("18 behind 0").due(BIG_WHEEL, "tariff 2; slot 0 1 0; set 0 9 0; row 0 60; pulse 0 0 1; pulse 0 1 1",
            "hire 0 0 0 0; second; part 100 = 10; second; part 100 = 30");
        new Bench("18 a way by parts of a millimetre is more, too").due("wheel 1 0 3; tariff 2; slot 0 1 0; set 0 9 1333; set 0 5 0",
            "row 0 60; pulse 0 0 4; pulse 0 1 3; hire 0 0 0 0; second; part 300000 = 4000; second; part 300000 = 10000; end 0",
            "set 0 9 1334; hire 0 0 0 0; second; second; part 300000 = 7000");
    }

    private static void hand() {
        new Bench("20 hand, wrong").due("hand 0 = STATE; hand 12 = STATE", DAY, "seal; slot 1 2 0; hire 0 0 0 0",
            "hand -1 = INDEX; hand 12 = INDEX; hand 2 = NOSUCH; hand 1 = ARGUMENT; about 10 = 0; end 0; hand 0 = STATE");
        new Bench("20 hand").due("tariff 0; tariff 1; slot 0 1 0; slot 1 1 1; slot 2 1 1; hire 0 0 0 0",
            "hand 0 = 0; about 10 = 0; hand 1 = 1; about 9 = 1; about 10 = 1; hand 2 = 0; about 10 = 1; hand 0 = 1; about 10 = 2; about 9 = 0");
        new Bench("20 it stands, or not").due(DAY, "row 0 3; pulse 0 0 1; hire 0 0 0 0; about 8 = 1; hand 0 = 0",
            "second; about 8 = 0; hand 0 = STATE; hand 12 = STATE; second; about 8 = 1; hand 0 = 0; second; about 8 = 1; second; "
                + "about 8 = 0; hand 5 = STATE",
            "end 0; about 8 = 0; hire 0 0 0 0; about 8 = 1; end 0; about 8 = 0");
        new Bench("20 fifty hands").due("tariff 0; tariff 0; slot 0 1 0; slot 1 1 1; hire 0 0 0 0")
            .times(25, "hand 1 = 1; hand 1 = 0; hand 0 = 1")
            .due("about 10 = 50; hand 1 = STATE; hand 0 = STATE; hand 12 = STATE; about 9 = 0; end 0; hire 0 0 0 0; hand 1 = 1; about 10 = 1");
    }

    private static void handAndParts() {
        new Bench("20 part and paid steps stay").due(
            "tariff 0; tariff 0; slot 0 1 0; slot 1 1 1; set 0 1 5; set 0 4 7; set 1 4 11; set 1 0 9; set 1 1 9; set 1 2 1; row 0 60",
            "hire 0 0 0 0; run 3; about 4 = 4; hand 1 = 1; about 4 = 4; part 7 = 3; fare = 300; run 6; part 77 = 75; second = 1; "
                + "part 77 = 5; about 4 = 3",
            "hand 0 = 1; run 6; part 77 = 71; second = 1; part 77 = 5; about 4 = 2; fare = 300");
        new Bench("20 the price is that of the tariff at hand").due(
            "tariff 0; tariff 0; slot 0 1 0; slot 1 1 1; set 0 4 2; set 1 4 2; set 1 2 3; row 0 60; hire 0 0 0 0",
            "second; hand 1; second = 1; fare = 303; second; hand 0; second = 1; fare = 323");
        Bench many = new Bench("20 twelve tariffs of many lengths and times").due("row 0 60");
        int[] times = {599, 593, 587, 577, 571, 569, 563, 557, 547, 541, 523, 521};
        for (int i = 0; i < times.length; i++) {
            many.due("tariff 0; slot " + i + " 1 " + i + "; set " + i + " 4 " + times[i]);
        }
        many.due("hire 0 0 0 0");
        for (int i = 0; i < times.length; i++) {
            many.due("hand " + i + " = " + (i == 0 ? 0 : 1) + "; second");
        }
        many.due("part 1000000 = 21380");
        for (int i = 0; i < times.length; i++) {
            many.due("hand " + i + "; second");
        }
        many.due("part 1000000 = 42761; about 3 = 0");
    }

    private static void calls() {
        new Bench("3 a call's extra comes once").due("tariff 4; slot 0 1 0; hire 0 0 0 0; fare = 400; about 5 = 100; extra 5 = 105; end 0 = 405");
        new Bench("3 once for each call by hand").due(
            "tariff 0; tariff 4; tariff 4; slot 0 1 0; slot 1 1 1; slot 2 1 2; set 2 14 7; hire 0 0 0 0; about 5 = 0",
            "hand 1; about 5 = 100; fare = 400; hand 0; hand 1; about 5 = 100; hand 2; about 5 = 107; hand 1; hand 2; about 5 = 107; end 0 = 407",
            "hire 1 0 0 0; about 5 = 100; hand 0; hand 1; about 5 = 100; end 0 = 400");
    }

    private static void extra() {
        new Bench("21 extra").due("extra 1 = STATE; extra -1 = STATE", DAY,
            "hire 0 0 0 0; extra 0 = 0; extra 10000 = 10000; extra 1 = 10001; extra -1 = ARGUMENT; extra 10001 = ARGUMENT",
            "fare = 10301; about 5 = 10001; end 0 = 10301; extra 1 = STATE; hire 0 0 0 0; extra 3 = 3");
    }

    private static void end() {
        new Bench("22 end").due("end 0 = STATE; end -1 = STATE", DAY,
            "hire 0 3 0 0; end -1 = ARGUMENT; end 100 = ARGUMENT; about 1 = 1; about 14 = -1; end 99 = 300; about 14 = 99; about 13 = 3; "
                + "about 1 = 0; end 0 = STATE");
    }

    private static void flat() {
        String setUp = "tariff 3; slot 0 1 0; tariff 0; slot 1 1 1; tariff 3; slot 2 1 2; set 0 11 7; set 0 12 9; set 0 13 5000; row 0 60";
        new Bench("22 flat").due(setUp,
            "hire 0 7 0 0; extra 3; run 60; fare = 343; about 15 = 0; end 9 = 5003; about 15 = 1; fare = 5003; about 5 = 3; receipt 0 0 = 5003",
            "hire 0 9 0 0; about 15 = 0; end 7 = 5000; hire 0 7 0 0; end 7 = 300; about 15 = 0; hire 0 9 0 0; end 9 = 300; hire 0 7 0 0; "
                + "end 8 = 300; hire 0 8 0 0; end 9 = 300",
            "set 0 12 7; hire 0 7 0 0; end 7 = 5000; hire 0 7 0 0; end 9 = 300; hire 0 9 0 0; end 9 = 300; hire 0 8 0 0; end 8 = 300; "
                + "hire 0 9 0 0; end 7 = 300");
        new Bench("22 flat and hands").due(setUp,
            "hire 0 7 0 0; hand 0 = 0; end 9 = 5000; hire 0 7 0 0; hand 1; end 9 = 300; hire 0 7 0 0; hand 1; hand 0; end 9 = 300; "
                + "about 15 = 0; about 9 = 0",
            "hire 1 7 0 0; hand 0; end 9 = 300; hire 2 7 0 0; hand 0; end 9 = 300; hire 2 0 0 0; end 1 = 4000");
    }
}
