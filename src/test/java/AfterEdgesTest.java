/** The edges of promises 23 to 29; each bench is about one sentence. */
public final class AfterEdgesTest {
    private static final String DAY = "tariff 0; slot 0 1 0";
    private static final String LEAST = "-2147483648";
    private static final String GREATEST = "2147483647";

    public static void main(String[] args) {
        pay();
        payStates();
        fare();
        part();
        about();
        aboutEach();
        greatestWay();
        dark();
        receipt();
        greatestFare();
        again();
        againByNow();
        againHands();
        againAtItsMost();
        Bench.close();
    }

    private static void pay() {
        new Bench("Promise 23: just its FARE, one less, one more").due(DAY, "hire 0 0 0 0; end 0; pay 299 = ARGUMENT; about 16 = 0",
            "pay 300 = 0; about 16 = 1; hire 0 0 0 0; end 0; pay 301 = 1; about 16 = 1");
        new Bench("Promise 23: the greatest and the least long").due(DAY, "hire 0 0 0 0; end 0; pay -9223372036854775808 = ARGUMENT",
            "pay -1 = ARGUMENT; pay 0 = ARGUMENT; pay 9223372036854775807 = 9223372036854775507");
        new Bench("Promise 23: an amount beyond int").due(DAY, "hire 0 0 0 0; end 0; pay 4294967596 = 4294967296");
        new Bench("Promise 23: an amount which is less, but not as an int").due(DAY, "hire 0 0 0 0; end 0; pay -4294966996 = ARGUMENT; about 16 = 0");
        new Bench("Promise 23: a FARE of 0").due(DAY, "set 0 0 0; hire 0 0 0 0; end 0 = 0; pay -1 = ARGUMENT; pay 0 = 0; pay 0 = STATE");
        new Bench("Promise 23: the FARE of a FLAT").due("tariff 3; slot 0 1 0; hire 0 0 0 0; extra 5; end 1; pay 4004 = ARGUMENT; pay 4005 = 0");
    }

    private static void payStates() {
        new Bench("Promise 23: there is none").due("pay 1000 = STATE; pay 0 = STATE", DAY, "pay 1000 = STATE");
        new Bench("Promise 23: a hire runs").due(DAY, "hire 0 0 0 0; pay 1000 = STATE; end 0; hire 0 0 0 0; pay 1000 = STATE",
            "about 16 = 0; end 0; pay 1000 = 700");
        new Bench("Promise 23: it is paid already").due(DAY, "hire 0 0 0 0; end 0; pay 300 = 0; pay 300 = STATE; pay 1000 = STATE",
            "about 16 = 1; fare = 300");
        new Bench("Promise 23: the latest one alone is paid").due(DAY, "hire 0 0 0 0; extra 100; end 0 = 400; hire 0 0 0 0; end 0 = 300",
            "pay 300 = 0; pay 400 = STATE; hire 0 0 0 0; about 16 = 0; end 0; pay 300 = 0");
        new Bench("Promise 23: a refused payment does not pay").due(DAY, "hire 0 0 0 0; end 0; pay 299 = ARGUMENT; pay 299 = ARGUMENT",
            "about 16 = 0; pay 300 = 0");
    }

    private static void fare() {
        new Bench("Promise 24: there was none").due("fare = NOSUCH", DAY, "fare = NOSUCH; should 0 0 0 0 0 = 300; fare = NOSUCH",
            "hire 0 0 0 0; fare = 300");
        new Bench("Promise 24: of the hire that runs, else of the latest one").due(DAY, "hire 0 0 0 0; extra 5; fare = 305; end 0",
            "fare = 305; hire 0 0 0 0; fare = 300; end 0; fare = 300");
    }

    private static void part() {
        new Bench("Promise 25: there was none").due("part 1 = NOSUCH", DAY, "leg 0 1; should 0 0 0 0 0; part 1 = NOSUCH");
        new Bench("Promise 25: n is 1 to 1000000").due(DAY, "hire 0 0 0 0; second; part 0 = ARGUMENT; part -1 = ARGUMENT; "
            + "part 1000001 = ARGUMENT; part " + LEAST + " = ARGUMENT; part " + GREATEST + " = ARGUMENT; part 1 = 0; "
            + "part 1000000 = 33333");
        new Bench("Promise 25: cut down: just a whole, and one less").due(DAY, "hire 0 0 0 0; run 10; part 2 = 0; part 3 = 1; part 4 = 1",
            "part 5 = 1; part 6 = 2; part 999999 = 333333; part 999998 = 333332; part 1000000 = 333333");
        new Bench("Promise 25: the least PART and the one next to 1").due(DAY, "set 0 4 600; hire 0 0 0 0; second; part 599 = 0",
            "part 600 = 1; part 1199 = 1; part 1200 = 2; run 598; part 1 = 0; part 2 = 1; part 600 = 599; part 599 = 598",
            "part 1000000 = 998333");
        new Bench("Promise 25: PART 0").due(DAY, "hire 0 0 0 0; part 1 = 0; part 1000000 = 0; run 30; part 1000000 = 0");
        new Bench("Promise 25: of the latest one, once it has ended").due(DAY, "hire 0 0 0 0; second; end 0; part 30 = 1; hire 0 0 0 0",
            "part 1000000 = 0");
    }

    private static void about() {
        new Bench("Promise 26: there was none").due(DAY, "about 0 = NOSUCH; about 16 = NOSUCH; about 17 = NOSUCH; about -1 = NOSUCH");
        new Bench("Promise 26: whats are 0 to 16").due(DAY, "hire 0 0 0 0; about 0 = 0; about 16 = 0; about -1 = NOSUCH; "
            + "about 17 = NOSUCH; about " + LEAST + " = NOSUCH; about " + GREATEST + " = NOSUCH; end 0; about -1 = NOSUCH; "
            + "about 17 = NOSUCH; about 16 = 0");
    }

    private static void aboutEach() {
        new Bench("Promise 26: 0 and 1, its number and whether it runs").due(DAY, "hire 0 0 0 0; about 0 = 0; about 1 = 1; end 0",
            "about 0 = 0; about 1 = 0; hire 0 0 0 0; about 0 = 1; about 1 = 1");
        new Bench("Promise 26: 2, all seconds run").due(DAY, "hire 0 0 0 0; about 2 = 0; run 3840; about 2 = 3840; end 0; about 2 = 3840");
        new Bench("Promise 26: 6, cut down").due(DAY, "wheel 1 0 3; row 0 2; pulse 0 0 2; pulse 0 1 1; hire 0 0 0 0; about 6 = 0; second",
            "about 6 = 666; second; about 6 = 1000; end 0; wheel 2 0 1; about 6 = 1000");
        new Bench("Promise 26: 8, 0 of one that has ended").due(DAY, "row 0 9; hire 0 0 0 0; about 8 = 1; end 0; about 8 = 0",
            "hire 0 0 0 0; second; about 8 = 1; end 0; about 8 = 0");
        new Bench("Promise 26: 9 and 10, of one that has ended").due("tariff 0; tariff 1; slot 0 1 0; slot 1 1 1; hire 0 0 0 0",
            "about 9 = 0; hand 1; about 9 = 1; about 10 = 1; end 0; about 9 = 1; about 10 = 1; hire 0 0 0 0; about 9 = 0; about 10 = 0");
        new Bench("Promise 26: 11, of the next second").due(DAY, "hire 0 0 5 58; about 11 = 5; second; about 11 = 5; second",
            "about 11 = 6; end 0; about 11 = 6");
        new Bench("Promise 26: 11, over midnight").due(DAY, "hire 0 0 1439 0; run 59; about 11 = 1439; second; about 11 = 0; run 3780",
            "about 2 = 3840; about 11 = 63");
        new Bench("Promise 26: 14, NONE as long as it runs").due(DAY, "hire 0 3 0 0; about 14 = -1; about 13 = 3; end 4; about 14 = 4",
            "about 13 = 3; hire 0 0 0 0; about 14 = -1");
        new Bench("Promise 26: 15 and 16").due("tariff 3; slot 0 1 0; hire 0 0 0 0; about 15 = 0; about 16 = 0; end 1; about 15 = 1",
            "about 16 = 0; pay 4000; about 16 = 1; about 15 = 1; hire 0 0 0 0; about 15 = 0; about 16 = 0");
    }

    /** Rows in which all of so many seconds have 500 pulses but the last one, which has rest. */
    private static void layFast(Bench bench, int seconds, int rest) {
        for (int t = 0; t < seconds; t++) {
            bench.due((t % 60 == 0 ? "row " + t / 60 + " 60; " : "") + "pulse " + t / 60 + " " + t % 60 + " " + (t == seconds - 1 ? rest : 500));
        }
    }

    private static void greatestWay() {
        Bench bench = new Bench("Promise 26: 6, the greatest int, if they are more").due(DAY, "wheel 10450109 20 1 = 9966");
        layFast(bench, 431, 481);
        bench.due("pulse 7 11 1; hire 0 0 0 0; run 431; about 6 = 2147483646; second; about 6 = 2147483647; end 0; about 6 = 2147483647");
    }

    private static void dark() {
        new Bench("Promise 27: there was no hire").due("dark 0 = NOSUCH", DAY, "dark 0 = NOSUCH; dark -1 = NOSUCH");
        new Bench("Promise 27: none, the first, the last, another one").due(DAY, "row 0 2; hire 0 0 0 0; run 2; dark 0 = NOSUCH; second; "
            + "dark 0 = 2; dark 1 = NOSUCH; second; dark 0 = 2; dark 1 = 3; dark 2 = NOSUCH; dark -1 = NOSUCH; dark " + LEAST
            + " = NOSUCH; dark " + GREATEST + " = NOSUCH");
        new Bench("Promise 27: all 3840").due(DAY, "hire 0 0 0 0; run 3840; dark 0 = 0; dark 59 = 59; dark 60 = 60; dark 3839 = 3839",
            "dark 3840 = NOSUCH; end 0; dark 3839 = 3839; dark 3840 = NOSUCH");
        new Bench("Promise 27: those of the hire ahead of it are gone").due(DAY, "hire 0 0 0 0; run 9; end 0; dark 8 = 8; hire 0 0 0 0",
            "dark 0 = NOSUCH; row 0 5; run 6; dark 0 = 5; dark 1 = NOSUCH");
        new Bench("Promise 27: with gaps").due(DAY, "row 0 59; row 2 0; row 3 60; row 1 60; hire 0 0 0 0; run 240; dark 0 = 59",
            "dark 1 = 120; dark 60 = 179; dark 61 = NOSUCH; about 7 = 61");
    }

    private static void receipt() {
        new Bench("Promise 28: there is none such").due("receipt 0 0 = NOSUCH", DAY, "receipt 0 0 = NOSUCH; hire 0 0 0 0; end 0; "
            + "receipt 0 0 = 300; receipt 1 0 = NOSUCH; receipt -1 0 = NOSUCH; receipt " + LEAST + " 0 = NOSUCH; receipt " + GREATEST
            + " 0 = NOSUCH; receipt 3999 0 = NOSUCH");
        new Bench("Promise 28: one that has not ended").due(DAY, "hire 0 0 0 0; receipt 0 0 = NOSUCH; end 0; hire 0 0 0 0",
            "receipt 0 0 = 300; receipt 1 0 = NOSUCH; end 0; receipt 1 0 = 300");
        new Bench("Promise 28: whats are 0 to 3").due(DAY, "hire 0 0 0 0; run 60; end 0; receipt 0 0 = 340; receipt 0 1 = 2; "
            + "receipt 0 2 = 60; receipt 0 3 = 1; receipt 0 -1 = NOSUCH; receipt 0 4 = NOSUCH; receipt 0 " + LEAST + " = NOSUCH; "
            + "receipt 0 " + GREATEST + " = NOSUCH");
        new Bench("Promise 28: receipts of two hires are not mixed").due(DAY, "hire 0 0 0 0; run 60; end 0; hire 0 0 0 0; end 0",
            "receipt 0 4 = NOSUCH; receipt 1 -1 = NOSUCH; receipt 0 1 = 2; receipt 1 1 = 0; receipt 1 0 = 300; receipt 0 2 = 60",
            "receipt 1 2 = 0");
        Bench most = new Bench("Promise 28: as many as 512 calls can make").due(DAY);
        for (int h = 0; h < 250; h++) {
            most.due("hire 0 0 0 0 = " + h + "; end 0");
        }
        most.due("receipt 0 0 = 300; receipt 249 0 = 300; receipt 249 3 = 1; receipt 250 0 = NOSUCH");
        new Bench("Promise 28: what comes behind its end does not change it").due(DAY, "seal; hire 0 0 0 0; run 30; end 0; breaks 0",
            "set 0 2 99; pay 400; hire 0 0 0 0; end 0; receipt 0 0 = 320; receipt 0 3 = 1; receipt 1 3 = 0");
    }

    private static void greatestFare() {
        Bench bench = new Bench("Promise 28: FARE, the greatest int, if it is more").due(DAY, "wheel 10 0 1; set 0 3 10000; set 0 2 10000");
        layFast(bench, 430, 248);
        int h = 0;
        for (long fare = 2147483646L; fare <= 2147483648L; fare++) {
            bench.due("set 0 0 " + (fare - 2147480000L) + "; hire 0 0 0 0; run 430; fare = " + fare + "; end 0 = " + fare);
            bench.due("receipt " + h + " 0 = " + Math.min(fare, Integer.MAX_VALUE) + "; receipt " + h + " 1 = 214748; again = " + fare);
            h++;
        }
        bench.due("pay 2147483647 = ARGUMENT; pay 2147483648 = 0");
    }

    private static void again() {
        new Bench("Promise 29: there is none").due("again = STATE", DAY, "again = STATE; should 0 0 0 0 0; again = STATE");
        new Bench("Promise 29: a hire runs").due(DAY, "hire 0 0 0 0; again = STATE; end 0; again = 300; hire 0 0 0 0; again = STATE",
            "end 0; again = 300");
        new Bench("Promise 29: the latest hire that has ended").due(DAY, "hire 0 0 0 0; extra 7; end 0; hire 0 0 0 0; run 30; end 0; again = 320");
        new Bench("Promise 29: a hire of no seconds").due(DAY, "set 0 4 1; hire 0 0 0 0; end 0; again = 300; set 0 0 9; again = 9");
        new Bench("Promise 29: what its FARE would be, it stays as it is").due(DAY, "hire 0 4 7 0; run 40; end 5 = 320; set 0 4 1",
            "set 0 0 0; row 0 60; again = 800; fare = 320; part 30 = 10; about 2 = 40; about 3 = 1; about 4 = 0; about 7 = 40",
            "about 8 = 0; dark 39 = 39; receipt 0 0 = 320; receipt 0 1 = 1; about 13 = 4; about 14 = 5; about 16 = 0; pay 320 = 0",
            "again = 800");
    }

    private static void againByNow() {
        new Bench("Promise 29: by the ROWS as they are now").due(DAY, "set 0 5 0; row 0 60; pulse 0 0 200; hire 0 0 0 0; second",
            "end 0 = 320; again = 320; pulse 0 0 400; again = 340; tear 0 0; again = 300; tear 0 -1; again = 300; row 0 60",
            "again = 300");
        new Bench("Promise 29: a second that is dark now has no way").due("wheel 10 0 1; tariff 2; slot 0 1 0; set 0 3 20000",
            "set 0 10 10000; set 0 9 19999; set 0 4 600; row 0 60; row 1 1; pulse 0 0 2; pulse 1 0 2; hire 0 0 0 0; run 61; end 0 = 360",
            "again = 360; tear 0 1; again = 360; set 0 9 20000; again = 340");
        new Bench("Promise 29: a second of no pulses goes by time, and at SPEED 0, too").due(DAY, "set 0 5 0; set 0 3 1000000",
            "hire 0 0 0 0; run 30; end 0 = 320; again = 320; row 0 60; again = 320");
        new Bench("Promise 29: by the NUMBERS as they are now").due(DAY, "set 0 4 1; hire 0 0 0 0; run 9; end 0 = 480; set 0 2 1",
            "again = 309; set 0 0 0; again = 9; set 0 1 10; again = 0; set 0 1 9; again = 1; set 0 4 9; set 0 1 1; again = 1");
        new Bench("Promise 29: by the wheel as it is now").due(DAY, "set 0 3 10000; row 0 1; pulse 0 0 20; hire 0 0 0 0; second",
            "end 0 = 320; wheel 4 0 4; again = 340; wheel 4 0 2; again = 380; wheel 1 0 4; again = 300");
        new Bench("Promise 29: by the tariff with which it began, whatever the slots hold now").due("tariff 0; tariff 1; slot 0 1 0",
            "hire 0 0 0 0; end 0 = 300; set 1 0 7; slot 0 1 1; again = 300; slot 0 0 0; again = 300");
        new Bench("Promise 29: by its beginning").due("tariff 1; slot 0 1 0; set 0 4 1; hire 0 0 1319 59; run 2; end 0 = 350",
            "again = 350; set 0 7 1319; set 0 6 1318; again = 340");
        new Bench("Promise 29: by its end").due("tariff 3; slot 0 1 0; hire 0 4 0 0; extra 9; end 6 = 309; set 0 11 4; set 0 12 6",
            "again = 4009; set 0 12 5; again = 309; set 0 11 6; set 0 12 4; again = 4009; about 15 = 0");
        new Bench("Promise 29: by the FAR LENGTH and BEHIND as they are now").due("wheel 10 0 1; tariff 2; slot 0 1 0; row 0 2",
            "pulse 0 0 10; pulse 0 1 10; hire 0 0 0 0; run 2; end 0 = 340; set 0 9 99999; again = 360; set 0 9 100000; again = 340",
            "set 0 9 0; set 0 10 10000; again = 520");
    }

    private static void againHands() {
        String setUp = "tariff 0; tariff 0; slot 0 1 0; slot 1 1 1; set 0 4 1; set 1 4 1; set 1 2 7; row 0 60; hire 0 0 0 0";
        new Bench("Promise 29: a HAND ahead of the first second").due(setUp, "hand 1; run 3; end 0 = 321; again = 321; set 1 2 8",
            "again = 324; set 0 2 99; again = 324");
        new Bench("Promise 29: a HAND behind the last second").due(setUp, "run 3; hand 1; end 0 = 360; again = 360; set 1 2 8",
            "again = 360; set 0 2 9; again = 327; about 9 = 1");
        new Bench("Promise 29: HANDS at the seconds at which they were").due(setUp, "run 3; hand 1; run 2; hand 0; run 1; end 0 = 394",
            "again = 394; set 1 2 8; again = 396; set 0 2 21; again = 400");
        new Bench("Promise 29: several HANDS at one second").due(setUp, "run 3; hand 1; hand 0; hand 1; run 2; hand 0; hand 1; hand 0",
            "run 1; end 0 = 394; again = 394");
        new Bench("Promise 29: whether it STANDS or not").due(setUp, "run 3; hand 1; run 2; end 0 = 374; pulse 0 2 9; again = 374",
            "tear 0 -1; again = 374; set 1 2 8; again = 376");
        new Bench("Promise 29: by the TARIFF that it had put there, whatever the slots hold now").due(setUp, "hand 1; run 3; end 0 = 321",
            "slot 1 1 0; again = 321; slot 1 0 0; again = 321");
        new Bench("Promise 29: extra() comes anew, EXTRA as it is now").due("tariff 4; tariff 4; slot 0 1 0; slot 1 1 1; hire 0 0 0 0",
            "extra 5; hand 1; extra 6; end 0 = 511; again = 511; set 0 14 1; again = 412; set 1 14 2; again = 314; set 0 0 0",
            "again = 14");
        new Bench("Promise 29: extra() and a FLAT PRICE").due("tariff 3; slot 0 1 0; hire 0 0 0 0; extra 5; end 1 = 4005; set 0 13 1",
            "again = 6; set 0 12 2; again = 305");
        new Bench("Promise 29: no FLAT PRICE if a HAND was there").due("tariff 3; tariff 0; slot 0 1 0; slot 1 1 1; hire 0 0 0 0; hand 1",
            "hand 0; end 2 = 300; set 0 12 2; again = 300; hire 1 0 0 0; hand 0; end 2; again = 300");
    }

    private static void againAtItsMost() {
        new Bench("Promise 29: 50 HANDS").due("tariff 0; tariff 0; slot 0 1 0; slot 1 1 1; set 0 4 1; set 1 4 1; set 1 2 7; row 0 60",
            "hire 0 0 0 0").times(25, "hand 1; second; hand 0; second").due("about 10 = 50; end 0 = 975; again = 975; set 1 2 8",
            "again = 1000; set 0 2 0; again = 500");
        new Bench("Promise 29: 3840 seconds").due(DAY, "hire 0 0 0 0; run 3840; end 0 = 2860; again = 2860; set 0 4 1; again = 77100",
            "row 63 60; pulse 63 59 500; again = 77120");
    }
}
