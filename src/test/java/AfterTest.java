/** Promises 23 to 29. */
public final class AfterTest {
    private static final String DAY = "tariff 0; slot 0 1 0";

    public static void main(String[] args) {
        pay();
        fare();
        part();
        about();
        dark();
        receipt();
        greatest();
        again();
        againWithHands();
        Bench.close();
    }

    private static void pay() {
        new Bench("23 pay").due("pay 1000 = STATE; pay -1 = STATE", DAY,
            "hire 0 0 0 0; pay 1000 = STATE; pay 0 = STATE; about 16 = 0; end 0; about 16 = 0; pay 299 = ARGUMENT; pay -1 = ARGUMENT; about 16 = 0",
            "pay 300 = 0; about 16 = 1; pay 300 = STATE; pay 0 = STATE; hire 0 0 0 0; about 16 = 0; pay 300 = STATE; end 0",
            "pay -9223372036854775808 = ARGUMENT; pay 9223372036854775807 = 9223372036854775507; about 16 = 1");
    }

    private static void fare() {
        new Bench("24 fare").due("fare = NOSUCH", DAY,
            "fare = NOSUCH; hire 0 0 0 0; fare = 300; extra 7; fare = 307; end 0; fare = 307; pay 400; fare = 307; set 0 0 5; fare = 307; "
                + "hire 0 0 0 0; fare = 5");
    }

    private static void part() {
        new Bench("25 part").due("part 1 = NOSUCH; part 0 = NOSUCH", DAY,
            "set 0 4 7; hire 0 0 0 0; part 1000000 = 0; run 6; part 0 = ARGUMENT; part 1000001 = ARGUMENT; part -1 = ARGUMENT",
            "part 1 = 0; part 2 = 1; part 6 = 5; part 7 = 6; part 8 = 6; part 1000000 = 857142; part 999999 = 857142; part 524288 = 449389",
            "end 0; part 7 = 6; set 0 4 3; part 7 = 6; hire 0 0 0 0; part 7 = 0");
    }

    private static void about() {
        new Bench("26 about, wrong").due("about 0 = NOSUCH; about -1 = NOSUCH", DAY,
            "about 0 = NOSUCH; hire 0 0 0 0; about -1 = NOSUCH; about 17 = NOSUCH; about 2147483647 = NOSUCH");
        new Bench("26 about").due(
            "tariff 0; tariff 4; slot 5 1 0; slot 6 1 1; set 0 1 4; set 0 4 2; set 1 4 2; row 0 7; pulse 0 0 20; pulse 0 1 20; hire 5 8 1439 57",
            "about 0 = 0; about 1 = 1; about 2 = 0; about 8 = 1; about 9 = 0; about 10 = 0; about 11 = 1439; about 14 = -1",
            "run 3; about 11 = 0; hand 6; extra 11; run 9; about 0 = 0; about 1 = 1; about 2 = 12; about 3 = 5; about 4 = 0; "
                + "about 5 = 111; about 6 = 20000",
            "about 7 = 5; about 8 = 0; about 9 = 1; about 10 = 1; about 11 = 0; about 12 = 1; about 13 = 8; about 14 = -1; about 15 = 0; "
                + "about 16 = 0",
            "fare = 451; part 10 = 2; end 9 = 451; about 1 = 0; about 8 = 0; about 14 = 9; about 2 = 12; about 3 = 5; about 9 = 1; "
                + "about 10 = 1; about 7 = 5",
            "hire 6 1 600 0; about 0 = 1; about 1 = 1; about 2 = 0; about 3 = 0; about 4 = 0; about 5 = 100; about 6 = 0; about 7 = 0; about 8 = 1",
            "about 9 = 1; about 10 = 0; about 11 = 600; about 13 = 1; about 14 = -1");
        new Bench("26 the minute of the day").due(DAY,
            "hire 0 0 1439 59; about 11 = 1439; second; about 11 = 0; run 59; about 11 = 0; second; about 11 = 1; end 0; about 11 = 1");
    }

    private static void dark() {
        new Bench("27 dark").due("dark 0 = NOSUCH", DAY,
            "row 0 2; hire 0 0 0 0; dark 0 = NOSUCH; run 4; dark 0 = 2; dark 1 = 3; dark 2 = NOSUCH; dark -1 = NOSUCH; row 0 10; run 6; "
                + "run 1; dark 2 = 10",
            "about 7 = 3; end 0; dark 2 = 10; dark 3 = NOSUCH; row 0 60; dark 0 = 2; hire 0 0 0 0; dark 0 = NOSUCH; run 60; "
                + "dark 0 = NOSUCH; second; dark 0 = 60; dark 1 = NOSUCH");
    }

    private static void receipt() {
        new Bench("28 receipt").due("receipt 0 0 = NOSUCH", DAY,
            "seal; hire 0 0 0 0; receipt 0 0 = NOSUCH; run 61; end 0; receipt 0 0 = 340; receipt 0 1 = 2; receipt 0 2 = 61; receipt 0 3 = 1",
            "receipt 0 -1 = NOSUCH; receipt 0 4 = NOSUCH; receipt 1 0 = NOSUCH; receipt -1 0 = NOSUCH; hire 0 0 0 0; "
                + "receipt 1 0 = NOSUCH; breaks 0; extra 5",
            "receipt 0 0 = 340; end 0; receipt 1 0 = 305; receipt 1 1 = 0; receipt 1 2 = 0; receipt 1 3 = 0; receipt 0 0 = 340; "
                + "receipt 0 3 = 1; receipt 2 0 = NOSUCH");
        Bench many = new Bench("28 many receipts").due(DAY);
        for (int i = 0; i < 150; i++) {
            many.due("hire 0 0 0 0 = " + i + "; extra " + i + "; end 0");
        }
        for (int i = 0; i < 50; i++) {
            many.due("receipt " + i * 3 + " 0 = " + (300 + i * 3));
        }
    }

    /** 430 seconds of 500 pulses of 10 metres are a way and a fare above the greatest int. */
    private static void greatest() {
        Bench bench = new Bench("26, 28 the greatest int").due(DAY, "wheel 10 0 1; set 0 3 10000; set 0 2 10000");
        for (int t = 0; t < 430; t++) {
            bench.due((t % 60 == 0 ? "row " + t / 60 + " 60; " : "") + "pulse " + t / 60 + " " + t % 60 + " 500");
        }
        bench.due("hire 0 0 0 0; run 429 = 429; about 6 = 2145000000; fare = 2145000300; second = 500; about 6 = 2147483647",
            "fare = 2150000300; about 3 = 215000",
            "end 0 = 2150000300; receipt 0 0 = 2147483647; receipt 0 1 = 215000; again = 2150000300; pay 2150000299 = ARGUMENT; pay 2150000301 = 1");
    }

    private static void again() {
        new Bench("29 again").due("again = STATE", DAY,
            "hire 0 0 0 0; again = STATE; row 0 60; pulse 0 0 200; run 60; extra 9; end 0 = 349; again = 349; fare = 349; pulse 0 0 400; "
                + "again = 369; fare = 349",
            "about 3 = 2; set 0 2 100; again = 609; set 0 0 0; again = 309; wheel 4 0 4; again = 509; set 0 1 3; again = 309; tear 0 -1; "
                + "set 0 4 2; again = 2809",
            "set 0 4 60; set 0 1 1; again = 109; pay 349 = 0; again = 109; hire 0 0 0 0; again = STATE; end 0 = 0; again = 0");
        new Bench("29 again, by the clock").due("tariff 1; slot 0 1 0; hire 0 0 1319 30; run 60; end 0 = 350; set 0 6 1000; again = 360",
            "set 0 7 1319; again = 340");
        new Bench("29 again, flat").due(
            "tariff 3; slot 0 1 0; hire 0 4 0 0; extra 50; run 30; end 6 = 370; about 15 = 0; again = 370; set 0 11 6; set 0 12 4; "
                + "again = 4050; about 15 = 0; fare = 370",
            "set 0 13 1; again = 51; hire 0 6 0 0; end 4 = 1; again = 1; set 0 11 5; again = 300; about 15 = 1");
        new Bench("29 again, dark seconds have no way").due(DAY,
            "set 0 5 0; set 0 3 1000000; hire 0 0 0 0; run 30; end 0 = 320; again = 320; row 0 60; again = 320; pulse 0 0 1; again = 300");
        new Bench("29 again, dark seconds stay told").due(DAY,
            "hire 0 0 0 0; run 5; end 0; about 7 = 5; row 0 60; again = 300; about 7 = 5; dark 4 = 4");
    }

    private static void againWithHands() {
        new Bench("29 again with hands and calls").due(
            "tariff 0; tariff 4; tariff 3; slot 0 1 0; slot 1 1 1; slot 2 1 2; set 0 4 1; set 1 4 1; set 1 2 7; row 0 60; hire 0 0 0 0",
            "run 10; hand 1; run 5; hand 0; run 2; hand 1; extra 4; end 0 = 679; again = 679; set 1 2 8; again = 684; set 1 14 0; again = 584",
            "slot 1 0 0; slot 0 0 0; again = 584; pulse 0 9 500; again = 604; pulse 0 9 0; tear 0 -1; again = 584; set 0 0 0; "
                + "again = 284; set 1 0 77; again = 284");
        new Bench("29 a hand ahead of the first and behind the last second").due(
            "tariff 0; tariff 4; slot 0 1 0; slot 1 1 1; set 1 4 1; set 1 2 3; row 0 60; hire 0 0 0 0; hand 1; run 4; hand 0; "
                + "end 0 = 412; again = 412; set 1 2 4; again = 416");
        new Bench("29 no flat by hands").due(
            "tariff 3; tariff 0; slot 0 1 0; slot 1 1 1; hire 0 0 0 0; hand 1; hand 0; end 1 = 300; again = 300; hire 1 0 0 0; hand 0; "
                + "end 1 = 300; again = 300");
        new Bench("29 what an image took back is not run anew").due(
            "tariff 0; tariff 4; slot 0 1 0; slot 1 1 1; row 0 60; hire 0 0 0 0; run 3; extra 1; keep; extra 20; hand 1; run 40; "
                + "back = 3; run 27; end 0 = 321; again = 321");
    }
}
