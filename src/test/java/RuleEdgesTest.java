/** The edges of THE RULE in 'Terms' 2 and of how a hire is counted in 'Terms' 3; each bench is about one sentence. */
public final class RuleEdgesTest {
    private static final String DAY = "tariff 0; slot 0 1 0";
    /** A wheel of 10 metres and one tooth: 10000 mm a pulse. */
    private static final String BIG_WHEEL = "wheel 10 0 1";

    public static void main(String[] args) {
        nightWithinDay();
        nightOverMidnight();
        neverNight();
        nightOfSeconds();
        far();
        farAtItsMost();
        beginning();
        speed();
        steps();
        paidSteps();
        prices();
        calls();
        callsByHand();
        flatZones();
        flatPrice();
        flatAndHands();
        Bench.close();
    }

    /** A hire of one second, a step of 7 by night and of 20 by day. */
    private static Bench night(String title, int from, int to) {
        return new Bench(title).due("tariff 1; slot 0 1 0; set 0 4 1; set 0 0 0; set 0 8 7; set 0 6 " + from + "; set 0 7 " + to);
    }

    private static String second(int minute, int price) {
        return "hire 0 0 " + minute + " 0; second = 1; fare = " + price + "; end 0 = " + price + "; hire 0 0 " + minute + " 59; "
            + "second = 1; end 0 = " + price;
    }

    private static void nightWithinDay() {
        night("Terms 2: night is from FROM on", 600, 660).due(second(599, 20), second(600, 7), second(601, 7));
        night("Terms 2: night is up to ahead of TO", 600, 660).due(second(659, 7), second(660, 20), second(661, 20));
        night("Terms 2: a night of one minute", 600, 601).due(second(599, 20), second(600, 7), second(601, 20));
        night("Terms 2: a night from 0 to 1439", 0, 1439).due(second(0, 7), second(1438, 7), second(1439, 20));
    }

    private static void nightOverMidnight() {
        night("Terms 2: over midnight, from FROM on", 1320, 360).due(second(1319, 20), second(1320, 7), second(1439, 7));
        night("Terms 2: over midnight, up to ahead of TO", 1320, 360).due(second(0, 7), second(359, 7), second(360, 20), second(720, 20));
        night("Terms 2: TO is less than FROM by one", 601, 600).due(second(599, 7), second(600, 20), second(601, 7), second(0, 7), second(1439, 7));
        night("Terms 2: from the last minute up to 0", 1439, 0).due(second(1438, 20), second(1439, 7), second(0, 20));
        night("Terms 2: from the last minute up to 1", 1439, 1).due(second(1439, 7), second(0, 7), second(1, 20));
    }

    private static void neverNight() {
        night("Terms 2: never if FROM and TO are the same", 600, 600).due(second(599, 20), second(600, 20), second(601, 20));
        night("Terms 2: never if both are 0", 0, 0).due(second(1439, 20), second(0, 20), second(1, 20));
        night("Terms 2: never if both are 1439", 1439, 1439).due(second(1438, 20), second(1439, 20), second(0, 20));
    }

    private static void nightOfSeconds() {
        night("Terms 3: the minute is that of the beginning and t seconds", 600, 601).due(
            "hire 0 0 599 58; second; second; fare = 40; second; fare = 47; run 58; fare = 453; second; fare = 460; second; fare = 480; end 0");
        night("Terms 3: the minute behind 1439 is 0", 0, 1).due("hire 0 0 1439 59; second; fare = 20; second; fare = 27; run 59",
            "fare = 440; second; fare = 460");
        new Bench("Terms 2: a step by way has the NIGHT price, too").due(BIG_WHEEL,
            "tariff 1; slot 0 1 0; set 0 3 10000; set 0 8 7; row 0 2; pulse 0 0 3; pulse 0 1 2; hire 0 0 1319 59; second = 3; fare = 360; "
                + "second = 2; fare = 374");
        new Bench("Terms 2: the price is that of the second in which the step falls due").due(
            "tariff 1; slot 0 1 0; set 0 4 2; set 0 8 7; hire 0 0 1319 59; second = 0; second = 1; fare = 307; end 0; hire 0 0 359 59; "
                + "second; second = 1; fare = 320");
        for (int kind = 0; kind < 5; kind++) {
            new Bench("Terms 2: NIGHT price is of a NIGHT alone, kind " + kind).due("tariff " + kind + "; slot 0 1 0; set 0 4 1; "
                + "set 0 0 0; hire 0 0 0 0; second",
                "fare = " + (kind == 1 ? 30 : kind == 4 ? 120 : 20));
        }
    }

    private static void far() {
        for (int kind = 2; kind <= 3; kind++) {
            String setUp = "tariff " + kind + "; slot 0 1 0; row 0 4; pulse 0 0 2; pulse 0 1 2; pulse 0 2 2";
            new Bench("Terms 2: a way of just BEHIND is not more, kind " + kind).due(BIG_WHEEL, setUp, "set 0 9 20000; hire 0 0 0 0",
                "second; part 100 = 20; second; part 100 = 40; second; part 100 = 80");
            new Bench("Terms 2: a way of a millimetre more than BEHIND, kind " + kind).due(BIG_WHEEL, setUp, "set 0 9 19999",
                "hire 0 0 0 0; second; part 100 = 20; second; part 100 = 60");
            new Bench("Terms 2: BEHIND is 0 at least, kind " + kind).due(BIG_WHEEL, setUp, "set 0 9 0; hire 0 0 0 0; second",
                "part 100 = 20; second; part 100 = 60");
        }
        new Bench("Terms 2: a way of a third of a millimetre more than BEHIND").due("wheel 1 0 3; tariff 2; slot 0 1 0; set 0 5 0",
            "row 0 2; pulse 0 0 4; pulse 0 1 3",
            "set 0 9 1333; hire 0 0 0 0; second; second; part 300000 = 10000; end 0; set 0 9 1334; hire 0 0 0 0; second; second; part 300000 = 7000");
        new Bench("Terms 2: the way of the hire, by whatever tariff").due(BIG_WHEEL, "tariff 0; tariff 2; slot 0 1 0; slot 1 1 1",
            "set 1 9 10000; row 0 4; pulse 0 0 2; pulse 0 2 2",
            "hire 0 0 0 0; run 2; hand 1 = 1; second; part 300 = 190");
        new Bench("Terms 2: far or not, a second by time is 1 / TIME").due(BIG_WHEEL, "tariff 2; slot 0 1 0; set 0 9 0; row 0 4",
            "pulse 0 0 1; hire 0 0 0 0; second; second; part 300 = 40");
        for (int kind = 0; kind < 5; kind += kind == 1 ? 3 : 1) {
            new Bench("Terms 2: no FAR LENGTH of kind " + kind).due(BIG_WHEEL, "tariff " + kind + "; slot 0 1 0", fastSeconds(22),
                "hire 0 0 600 0; run 21 = 21; second = 50");
        }
    }

    private static String fastSeconds(int n) {
        StringBuilder calls = new StringBuilder("row 0 " + n);
        for (int i = 0; i < n; i++) {
            calls.append("; pulse 0 ").append(i).append(" 500");
        }
        return calls.toString();
    }

    private static void farAtItsMost() {
        new Bench("Terms 2: BEHIND is 100000000 at most").due(BIG_WHEEL, "tariff 2; slot 0 1 0; set 0 9 100000000; set 0 3 1000000",
            "set 0 10 500000", fastSeconds(22),
            "hire 0 0 0 0; run 20; about 6 = 100000000; second = 5; about 6 = 105000000; second = 10");
    }

    private static void beginning() {
        new Bench("Terms 3: FIRST price at its least and most").due(DAY, "set 0 0 0; hire 0 0 0 0; fare = 0; end 0; set 0 0 10000",
            "hire 0 0 0 0; fare = 10000; end 0 = 10000");
        new Bench("Terms 3: PAID steps are FIRST steps less 1").due(DAY, "hire 0 0 0 0; about 4 = 0; end 0; set 0 1 2; hire 0 0 0 0",
            "about 4 = 1; end 0; set 0 1 50; hire 0 0 0 0; about 4 = 49");
        new Bench("Terms 3: all else is 0 at the beginning, whatever the hire ahead of it was").due("tariff 4; tariff 0; slot 0 1 0",
            "slot 1 1 1; row 0 9; pulse 0 0 21; seal; hire 0 3 600 0; breaks 0; run 2; hand 1; extra 9; run 60; end 4; pay 10000",
            "sets 0",
            "hire 1 0 0 0 = 1; fare = 300; part 1000000 = 0; about 2 = 0; about 3 = 0; about 4 = 0; about 5 = 0; about 6 = 0; "
                + "about 7 = 0; about 8 = 1; about 9 = 1; about 10 = 0",
            "about 11 = 0; about 12 = 1; about 13 = 0; about 14 = -1; about 15 = 0; about 16 = 0; dark 0 = NOSUCH");
    }

    private static void speed() {
        new Bench("Terms 3: a way of just SPEED goes by time").due(DAY, "row 0 1; pulse 0 0 10; hire 0 0 0 0; second; part 1000000 = 33333");
        new Bench("Terms 3: a way of a millimetre more than SPEED goes by way").due(DAY, "set 0 5 4999; row 0 1; pulse 0 0 10",
            "hire 0 0 0 0; second; part 1000000 = 50000");
        new Bench("Terms 3: a way of a third of a millimetre more, or less, than SPEED").due(DAY, "wheel 1 0 3; set 0 5 1333; row 0 1",
            "pulse 0 0 4; hire 0 0 0 0; second; part 300000 = 4000; end 0",
            "set 0 5 1334; hire 0 0 0 0; second; part 300000 = 10000");
        new Bench("Terms 3: SPEED 0 at least").due(DAY, "set 0 5 0; row 0 2; pulse 0 1 1; hire 0 0 0 0; second; part 600 = 20; second",
            "part 600 = 23");
        new Bench("Terms 3: SPEED 60000 at most").due(DAY, BIG_WHEEL, "set 0 5 60000; row 0 2; pulse 0 0 6; pulse 0 1 7; hire 0 0 0 0",
            "second; part 600 = 20; second; part 600 = 440");
        new Bench("Terms 3: a dark second goes by time").due(DAY, "set 0 5 0; hire 0 0 0 0; second; part 30 = 1");
        new Bench("Terms 3: never by both").due(DAY, BIG_WHEEL, "row 0 2; pulse 0 0 3; hire 0 0 0 0; second; part 300 = 90; second; part 300 = 100");
    }

    private static void steps() {
        new Bench("Terms 3: a PART of just 1 is a step").due(DAY, "hire 0 0 0 0; run 29; about 3 = 0; part 30 = 29; second = 1",
            "part 1000000 = 0; fare = 320");
        new Bench("Terms 3: TIME is 600 at most").due(DAY, "set 0 4 600; hire 0 0 0 0; run 599; about 3 = 0; part 600 = 599",
            "part 599 = 598; second = 1; part 1000000 = 0");
        new Bench("Terms 3: TIME is 1 at least").due(DAY, "set 0 4 1; hire 0 0 0 0; second = 1; second = 1; part 1000000 = 0; run 3838",
            "about 3 = 3840; fare = 77100");
        new Bench("Terms 3: LENGTH is 1000000 at most").due(DAY, BIG_WHEEL, "set 0 3 1000000; row 0 3; pulse 0 0 99; pulse 0 1 1",
            "pulse 0 2 101; hire 0 0 0 0; second = 0; part 100 = 99; second = 1; second = 1; part 100 = 1");
        new Bench("Terms 3: LENGTH is 10000 at least").due(DAY, BIG_WHEEL, "set 0 3 10000; row 0 1; pulse 0 0 500; hire 0 0 0 0",
            "second = 500; part 1000000 = 0; about 3 = 500; fare = 10300");
        new Bench("Terms 3: what is left of PART is carried on, exactly").due(DAY, "wheel 1 0 7; set 0 5 0; set 0 3 10000; set 0 4 11",
            "row 0 3; pulse 0 0 500; pulse 0 1 200; hire 0 0 0 0; second = 7; part 7 = 1; part 1000000 = 142857",
            "second = 3; part 1000000 = 0; second = 0; part 11 = 1; part 10 = 0");
        new Bench("Terms 3: half a millimetre of a LENGTH of a kilometre").due(DAY, "wheel 104858 20 200; set 0 3 1000000; set 0 5 0",
            "row 0 60; pulse 0 0 1; pulse 0 1 1; hire 0 0 0 0; second; part 1000000 = 0; second; part 1000000 = 1; part 999999 = 0");
    }

    private static void paidSteps() {
        new Bench("Terms 3: the last PAID step costs nothing, the next one does").due(DAY, "set 0 4 1; set 0 1 3; hire 0 0 0 0; second",
            "second; fare = 300; about 4 = 0; about 3 = 2; second; fare = 320; about 4 = 0; about 3 = 3");
        new Bench("Terms 3: 49 PAID steps at most, within one second").due(DAY, BIG_WHEEL, "set 0 1 50; set 0 3 10000; row 0 3",
            "pulse 0 0 48; pulse 0 1 2; pulse 0 2 50; hire 0 0 0 0; second = 48; fare = 300; about 4 = 1; second = 2; fare = 320",
            "about 4 = 0; second = 50; fare = 1320");
        new Bench("Terms 3: as many steps as there are PAID ones").due(DAY, BIG_WHEEL, "set 0 1 50; set 0 3 10000; row 0 1; pulse 0 0 49",
            "hire 0 0 0 0; second = 49; fare = 300; about 4 = 0; about 3 = 49");
        new Bench("Terms 3: a step more than there are PAID ones").due(DAY, BIG_WHEEL, "set 0 1 50; set 0 3 10000; row 0 1; pulse 0 0 50",
            "hire 0 0 0 0; second = 50; fare = 320; about 4 = 0; about 3 = 50");
    }

    private static void prices() {
        new Bench("Terms 3: STEP price 0").due(DAY, "set 0 2 0; set 0 4 1; hire 0 0 0 0; run 9; fare = 300; about 3 = 9");
        new Bench("Terms 3: STEP price 10000").due(DAY, "set 0 2 10000; set 0 4 1; hire 0 0 0 0; run 9; fare = 90300");
        new Bench("Terms 3: NIGHT price 0 and 10000").due("tariff 1; slot 0 1 0; set 0 8 0; set 0 4 1; hire 0 0 0 0; run 9; fare = 300",
            "end 0; set 0 8 10000; hire 0 0 0 0; run 9; fare = 90300");
    }

    private static void calls() {
        new Bench("Terms 3: EXTRA of a CALL, at its least and most").due("tariff 4; slot 0 1 0; set 0 14 0; hire 0 0 0 0; fare = 300",
            "about 5 = 0; end 0; set 0 14 10000; hire 0 0 0 0; fare = 10300; about 5 = 10000; end 0 = 10300");
        new Bench("Terms 3: no EXTRA of a hand by the same CALL").due("tariff 4; slot 0 1 0; slot 1 1 0; hire 0 0 0 0; about 5 = 100",
            "hand 0 = 0; hand 1 = 0; about 5 = 100; fare = 400");
        new Bench("Terms 3: in another hire the EXTRA comes again").due("tariff 4; slot 0 1 0; hire 0 0 0 0; about 5 = 100; end 0 = 400",
            "hire 0 0 0 0; about 5 = 100; end 0 = 400");
    }

    private static void callsByHand() {
        new Bench("Terms 3: once a hire for each CALL, the first by the hire").due("tariff 4; tariff 0; slot 0 1 0; slot 1 1 1",
            "hire 0 0 0 0; hand 1; hand 0 = 1; about 5 = 100; fare = 400");
        new Bench("Terms 3: once a hire for each CALL, the first by a hand").due("tariff 0; tariff 4; slot 0 1 0; slot 1 1 1",
            "hire 0 0 0 0; about 5 = 0; hand 1; about 5 = 100; fare = 400; hand 0; hand 1; about 5 = 100; fare = 400");
        Bench twelve = new Bench("Terms 3: twelve CALLS in one hire").times(12, "tariff 4");
        for (int i = 0; i < 12; i++) {
            twelve.due("slot " + i + " 1 " + i + "; set " + i + " 14 " + (1 << i));
        }
        twelve.due("hire 0 0 0 0; about 5 = 1");
        for (int i = 1; i < 12; i++) {
            twelve.due("hand " + i + " = 1; about 5 = " + ((2 << i) - 1));
        }
        for (int i = 0; i < 12; i++) {
            twelve.due("hand " + i + " = 1; about 5 = 4095");
        }
        twelve.due("fare = 4395; end 0 = 4395; again = 4395");
    }

    private static void flatZones() {
        String setUp = "tariff 3; slot 0 1 0; set 0 11 7; set 0 12 9";
        new Bench("Terms 3: it began in one of the zones and ends in the other one").due(setUp, "hire 0 7 0 0; end 9 = 4000",
            "about 15 = 1; hire 0 9 0 0; end 7 = 4000; about 15 = 1");
        new Bench("Terms 3: it began and ends in the same one of two zones").due(setUp, "hire 0 7 0 0; end 7 = 300; about 15 = 0",
            "hire 0 9 0 0; end 9 = 300; about 15 = 0");
        new Bench("Terms 3: only one of both is a zone of it").due(setUp, "hire 0 7 0 0; end 8 = 300; hire 0 8 0 0; end 9 = 300",
            "hire 0 9 0 0; end 8 = 300; hire 0 8 0 0; end 7 = 300; hire 0 8 0 0; end 8 = 300; about 15 = 0");
        new Bench("Terms 3: both zones are one and so are both").due(setUp, "set 0 12 7; hire 0 7 0 0; end 7 = 4000; about 15 = 1");
        new Bench("Terms 3: both zones are one, but not both").due(setUp, "set 0 12 7; hire 0 7 0 0; end 9 = 300; hire 0 9 0 0",
            "end 7 = 300; hire 0 9 0 0; end 9 = 300; about 15 = 0");
        new Bench("Terms 3: the first and the last zone").due("tariff 3; slot 0 1 0; set 0 11 99; set 0 12 0; hire 0 0 0 0",
            "end 99 = 4000; hire 0 99 0 0; end 0 = 4000; set 0 12 99; hire 0 99 0 0; end 99 = 4000; hire 0 0 0 0; end 0 = 300");
        for (int kind = 0; kind < 5; kind++) {
            new Bench("Terms 3: only a FLAT has a PRICE, kind " + kind).due("tariff " + kind + "; slot 0 1 0; hire 0 0 0 0; end 1 = "
                + (kind == 3 ? 4000 : kind == 4 ? 400 : 300), "about 15 = " + (kind == 3 ? 1 : 0));
        }
    }

    private static void flatPrice() {
        String setUp = "tariff 3; slot 0 1 0; set 0 4 1";
        new Bench("Terms 3: PRICE 0, and the EXTRAS").due(setUp, "set 0 13 0; hire 0 0 0 0; run 9; fare = 480; end 1 = 0; about 15 = 1",
            "hire 0 0 0 0; extra 7; end 1 = 7; fare = 7; receipt 0 0 = 0; receipt 1 0 = 7");
        new Bench("Terms 3: PRICE 1000000, and the EXTRAS").due(setUp, "set 0 13 1000000; hire 0 0 0 0; extra 10000; extra 10000",
            "end 1 = 1020000; fare = 1020000; receipt 0 0 = 1020000");
        new Bench("Terms 3: STEPS, PART, WAY stay what they are").due("tariff 3; slot 0 1 0; row 0 60; pulse 0 0 8; hire 0 0 0 0; run 40",
            "end 1 = 4000; about 3 = 1; part 30 = 10; about 6 = 4000; about 2 = 40; receipt 0 1 = 1; receipt 0 2 = 40");
        new Bench("Terms 3: FARE is PRICE at the end, not ahead of it").due(setUp, "hire 0 0 0 0; run 9; fare = 480; about 15 = 0",
            "end 100 = ARGUMENT; fare = 480; about 15 = 0; end 1 = 4000; fare = 4000");
    }

    private static void flatAndHands() {
        String setUp = "tariff 3; tariff 0; tariff 3; slot 0 1 0; slot 1 1 1; slot 2 1 2";
        new Bench("Terms 3: a FLAT put there by a HAND").due(setUp, "hire 1 0 0 0; hand 0 = 1; end 1 = 300; about 15 = 0; about 9 = 0");
        new Bench("Terms 3: the FLAT by which it began, and another one meanwhile").due(setUp, "hire 0 0 0 0; hand 1 = 1; hand 0 = 1",
            "end 1 = 300; about 15 = 0; about 9 = 0");
        new Bench("Terms 3: another FLAT, with the same zones").due(setUp, "hire 0 0 0 0; hand 2 = 1; end 1 = 300; about 15 = 0",
            "hire 0 0 0 0; hand 2; hand 0; end 1 = 300; about 15 = 0");
        new Bench("Terms 3: it began by a FLAT which is not at hand at its end").due(setUp, "hire 0 0 0 0; hand 1 = 1; end 1 = 300; about 15 = 0");
        new Bench("Terms 3: a hand by the FLAT at hand puts no other one there").due(setUp, "hire 0 0 0 0; hand 0 = 0; end 1 = 4000; about 15 = 1");
        new Bench("Terms 3: a refused hand puts nothing there").due(setUp, "hire 0 0 0 0; hand 12 = INDEX; hand 3 = NOSUCH; second",
            "hand 1 = STATE; end 1 = 4000");
        new Bench("Terms 3: by a HAND in the hire before").due(setUp, "hire 1 0 0 0; hand 0; end 1 = 300; hire 0 0 0 0; end 1 = 4000");
    }
}
