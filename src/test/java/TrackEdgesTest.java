/** The edges of 'Terms' 4 and of promises 30 to 34; each bench is about one sentence. */
public final class TrackEdgesTest {
    private static final String DAY = "tariff 0; slot 0 1 0";
    private static final String LEAST = "-2147483648";
    private static final String GREATEST = "2147483647";

    public static void main(String[] args) {
        leg();
        mostLegs();
        clear();
        shouldArguments();
        shouldHolding();
        shouldBySpeed();
        shouldByRule();
        shouldAlone();
        error();
        withinArguments();
        withinEdges();
        withinUnlikeParts();
        Bench.close();
    }

    private static void leg() {
        new Bench("Promise 30: speeds are 0 to 60000").due("leg -1 1 = ARGUMENT; leg 60001 1 = ARGUMENT; leg " + LEAST + " 1 = ARGUMENT; "
            + "leg " + GREATEST + " 1 = ARGUMENT; clear = 0; leg 0 1 = 1; leg 60000 1 = 2; clear = 2");
        new Bench("Promise 30: seconds are 1 to 3840").due("leg 0 0 = ARGUMENT; leg 0 -1 = ARGUMENT; leg 0 3841 = ARGUMENT; leg 0 "
            + LEAST + " = ARGUMENT; leg 0 " + GREATEST + " = ARGUMENT; clear = 0; leg 0 1 = 1; clear; leg 0 3840 = 3840; clear = 1");
        new Bench("Promise 30: how many seconds the TRACK has").due("leg 5 7 = 7; leg 0 1 = 8; leg 60000 100 = 108; leg -1 5 = ARGUMENT",
            "leg 1 1 = 109");
    }

    private static void mostLegs() {
        new Bench("Promise 30: there are 20").times(19, "leg 1 1").due("leg 1 1 = 20; leg 1 1 = -1; leg 1 3820 = -1; clear = 20; leg 1 1 = 1");
        new Bench("Promise 30: it would have more than 3840").due("leg 1 3838 = 3838; leg 1 3 = -1; leg 1 2 = 3840; leg 1 1 = -1",
            "clear = 2; leg 1 3839 = 3839; leg 1 2 = -1; leg 1 3840 = -1; leg 1 1 = 3840; leg 1 1 = -1; clear = 2");
        new Bench("Promise 30: both at once").times(20, "leg 1 192").due("leg 1 1 = -1; clear = 20");
        new Bench("Promise 30: a LEG that was not taken is not driven").due(DAY, "set 0 4 1; leg 0 3839; leg 0 2 = -1",
            "should 0 0 0 0 0 = 77080; leg 0 1 = 3840; leg 0 1 = -1; should 0 0 0 0 0 = 77100; clear").times(20, "leg 0 1")
            .due("leg 0 1 = -1; should 0 0 0 0 0 = 700");
    }

    private static void clear() {
        new Bench("Promise 31: no LEGS, one, all").due("clear = 0; clear = 0; leg 0 1; clear = 1; clear = 0").times(20, "leg 0 1")
            .due("clear = 20; clear = 0");
        new Bench("Promise 31: the TRACK has no LEGS").due(DAY, "set 0 4 1; leg 0 3840; clear = 1; should 0 0 0 0 0 = 300; leg 0 2 = 2",
            "should 0 0 0 0 0 = 340");
        new Bench("Promise 31: what should() was stays").due(DAY, "set 0 4 1; leg 0 3; should 0 0 0 0 0; hire 0 0 0 0; error = -3; clear",
            "error = -3; leg 0 9; error = -3");
    }

    private static void shouldArguments() {
        new Bench("Promise 32: slots are 0 to 11").due("tariff 0; slot 0 1 0; slot 11 1 0; should -1 0 0 0 0 = INDEX; "
            + "should 12 0 0 0 0 = INDEX; should " + LEAST + " 0 0 0 0 = INDEX; should " + GREATEST + " 0 0 0 0 = INDEX; "
            + "should 0 0 0 0 0 = 300; should 11 0 0 0 0 = 300");
        new Bench("Promise 32: zones are 0 to 99").due(DAY, "should 0 -1 0 0 0 = ARGUMENT; should 0 100 0 0 0 = ARGUMENT; should 0 "
            + LEAST + " 0 0 0 = ARGUMENT; should 0 " + GREATEST + " 0 0 0 = ARGUMENT; should 0 0 0 0 0 = 300; should 0 99 0 0 0 = 300");
        new Bench("Promise 32: zones of the end likewise").due(DAY, "should 0 0 -1 0 0 = ARGUMENT; should 0 0 100 0 0 = ARGUMENT; "
            + "should 0 0 " + LEAST + " 0 0 = ARGUMENT; should 0 0 " + GREATEST + " 0 0 = ARGUMENT; should 0 0 99 0 0 = 300");
        new Bench("Promise 32: minutes are 0 to 1439").due(DAY, "should 0 0 0 -1 0 = ARGUMENT; should 0 0 0 1440 0 = ARGUMENT; "
            + "should 0 0 0 " + LEAST + " 0 = ARGUMENT; should 0 0 0 " + GREATEST + " 0 = ARGUMENT; should 0 0 0 1439 0 = 300");
        new Bench("Promise 32: seconds are 0 to 59").due(DAY, "should 0 0 0 0 -1 = ARGUMENT; should 0 0 0 0 60 = ARGUMENT; "
            + "should 0 0 0 0 " + LEAST + " = ARGUMENT; should 0 0 0 0 " + GREATEST + " = ARGUMENT; should 0 0 0 0 59 = 300");
    }

    private static void shouldHolding() {
        new Bench("Promise 32: the slot holds nothing").due(DAY, "should 1 0 0 0 0 = NOSUCH; slot 0 0 0; should 0 0 0 0 0 = NOSUCH");
        new Bench("Promise 32: the slot holds a seal").due("seal; slot 0 2 0; should 0 0 0 0 0 = ARGUMENT");
        new Bench("Promise 32: wrong numbers are ahead of a slot that holds nothing").due("should 0 100 0 0 0 = ARGUMENT",
            "should 0 -1 0 0 0 = ARGUMENT; should 0 0 100 0 0 = ARGUMENT; should 0 0 -1 0 0 = ARGUMENT; should 0 0 0 1440 0 = ARGUMENT",
            "should 0 0 0 -1 0 = ARGUMENT; should 0 0 0 0 60 = ARGUMENT; should 0 0 0 0 -1 = ARGUMENT; should 0 0 0 0 0 = NOSUCH");
        new Bench("Promise 32: a refused should() leaves the latest one").due(DAY, "seal; slot 1 2 0; set 0 4 1; leg 0 3",
            "should 0 0 0 0 0; leg 0 1; hire 0 0 0 0; error = -3; should 12 0 0 0 0 = INDEX; should 0 100 0 0 0 = ARGUMENT",
            "should 0 0 100 0 0 = ARGUMENT; should 0 0 0 1440 0 = ARGUMENT; should 0 0 0 0 60 = ARGUMENT; should 1 0 0 0 0 = ARGUMENT",
            "should 2 0 0 0 0 = NOSUCH",
            "error = -3; within 2 1 = 1; within 1 1 = 0; should 0 0 0 0 0; error = -4");
        new Bench("Promise 32: a refused should() is none").due(DAY, "hire 0 0 0 0; should 12 0 0 0 0 = INDEX",
            "should 0 100 0 0 0 = ARGUMENT; should 2 0 0 0 0 = NOSUCH; error = STATE; within 0 1 = STATE");
    }

    private static void shouldBySpeed() {
        new Bench("Terms 4: w is the speed: just SPEED, and a millimetre more").due(DAY, "set 0 4 600; set 0 3 10000; set 0 0 0",
            "leg 5000 4; should 0 0 0 0 0 = 0; clear; leg 5001 2; should 0 0 0 0 0 = 20");
        new Bench("Terms 4: the least and the greatest speed").due(DAY, "set 0 5 0; set 0 0 0; set 0 4 1; leg 0 1; should 0 0 0 0 0 = 20",
            "clear; set 0 3 10000; leg 60000 1; should 0 0 0 0 0 = 120; set 0 5 60000; should 0 0 0 0 0 = 20; set 0 5 59999",
            "should 0 0 0 0 0 = 120");
        new Bench("Terms 4: the most of all").due(DAY, "set 0 3 10000; set 0 2 10000; leg 60000 3840; should 0 0 0 0 0 = 230400300");
        new Bench("Terms 4: no LEGS").due(DAY, "should 0 0 0 0 0 = 300; hire 0 0 0 0; error = 0; within 0 1 = 1");
        new Bench("Terms 4: LEGS in order").due("tariff 2; slot 0 1 0; set 0 9 0; set 0 3 1000000; set 0 10 10000; leg 60000 1",
            "leg 10000 1; should 0 0 0 0 0 = 320; clear; leg 10000 1; leg 60000 1; should 0 0 0 0 0 = 420");
        new Bench("Terms 4: the wheel and the ROWS do not matter").due(DAY, "leg 10000 10; should 0 0 0 0 0 = 320; wheel 1 0 200",
            "row 0 60; pulse 0 0 500; should 0 0 0 0 0 = 320; hire 0 0 0 0; run 9; should 0 0 0 0 0 = 320");
    }

    private static void shouldByRule() {
        new Bench("Terms 4: its minute and second").due("tariff 1; slot 0 1 0; set 0 4 1; set 0 0 0; leg 0 2; should 0 0 0 1319 58 = 40",
            "should 0 0 0 1319 59 = 50; should 0 0 0 1320 0 = 60; should 0 0 0 359 58 = 60; should 0 0 0 359 59 = 50",
            "should 0 0 0 360 0 = 40; should 0 0 0 1439 59 = 60");
        new Bench("Terms 4: a way of just BEHIND, and a millimetre more").due("tariff 2; slot 0 1 0; set 0 3 20000; set 0 10 10000",
            "set 0 9 20000; leg 20000 2; should 0 0 0 0 0 = 340; set 0 9 19999; should 0 0 0 0 0 = 360");
        new Bench("Terms 4: PAID steps").due(DAY, "set 0 4 1; set 0 1 4; leg 0 3; should 0 0 0 0 0 = 300; leg 0 1; should 0 0 0 0 0 = 320");
        new Bench("Terms 4: a FLAT from zone to zone").due("tariff 3; slot 0 1 0; should 0 0 1 0 0 = 4000; should 0 1 0 0 0 = 4000",
            "should 0 0 0 0 0 = 300; should 0 1 1 0 0 = 300; should 0 0 2 0 0 = 300; set 0 12 0; should 0 0 0 0 0 = 4000",
            "should 0 0 1 0 0 = 300; should 0 1 1 0 0 = 300");
        new Bench("Terms 4: EXTRA of a CALL, each time").due("tariff 4; slot 0 1 0; should 0 0 0 0 0 = 400; should 0 0 0 0 0 = 400",
            "hire 0 0 0 0; about 5 = 100; should 0 0 0 0 0 = 400");
        new Bench("Terms 4: without the HANDS and extra() of the hire that runs").due("tariff 0; tariff 0; slot 0 1 0; slot 1 1 1",
            "set 0 4 1; leg 0 2; hire 0 0 0 0; hand 1; extra 9; should 0 0 0 0 0 = 340; about 9 = 1");
    }

    private static void shouldAlone() {
        new Bench("Promise 32: it leaves the hire that runs").due(DAY, "leg 60000 9; row 0 60; hire 0 4 7 0; keep; run 31; extra 2",
            "should 0 5 6 8 9; fare = 322; part 30 = 1; about 0 = 0; about 1 = 1; about 2 = 31; about 3 = 1; about 5 = 2; about 6 = 0",
            "about 8 = 1; about 11 = 7; about 13 = 4; about 14 = -1; back = 0");
        new Bench("Promise 32: it begins no hire").due(DAY, "should 0 0 0 0 0; about 0 = NOSUCH; receipt 0 0 = NOSUCH; seal; since 0 = 0",
            "hire 0 0 0 0 = 0");
    }

    private static void error() {
        new Bench("Promise 33: there was no hire").due(DAY, "error = STATE; should 0 0 0 0 0; error = STATE; hire 0 0 0 0; error = 0");
        new Bench("Promise 33: there was no should()").due(DAY, "hire 0 0 0 0; error = STATE; end 0; error = STATE; should 0 0 0 0 0; error = 0");
        new Bench("Promise 33: more, as many, fewer").due(DAY, "set 0 4 1; leg 0 3; should 0 0 0 0 0; hire 0 0 0 0; error = -3; run 3",
            "error = 0; second; error = 1");
        new Bench("Promise 33: of the hire that runs, or of the latest").due(DAY, "set 0 4 1; should 0 0 0 0 0; hire 0 0 0 0; run 3",
            "error = 3; end 0; error = 3; hire 0 0 0 0; error = 0; second; error = 1");
        new Bench("Promise 33: of the latest should()").due(DAY, "set 0 4 1; hire 0 0 0 0; leg 0 3; should 0 0 0 0 0; error = -3",
            "leg 0 1; error = -3; should 0 0 0 0 0; error = -4; clear; should 0 0 0 0 0; error = 0");
        new Bench("Promise 33: PAID steps count, a FLAT PRICE does not").due("tariff 3; slot 0 1 0; set 0 4 1; set 0 1 50; leg 0 3",
            "should 0 0 1 0 0 = 4000; hire 0 0 0 0; error = -3; run 5; end 1 = 4000; error = 2");
        new Bench("Promise 33: the most and the least").due(DAY, "wheel 10 0 1; set 0 3 10000; leg 60000 3840; should 0 0 0 0 0",
            "hire 0 0 0 0; error = -23040; run 3840; error = -22912; clear; should 0 0 0 0 0; error = 128");
    }

    private static void withinArguments() {
        new Bench("Promise 34: there was no hire, or no should()").due(DAY, "within 0 1 = STATE; should 0 0 0 0 0; within 0 1 = STATE",
            "hire 0 0 0 0; within 0 1 = 1");
        new Bench("Promise 34: there was no should()").due(DAY, "hire 0 0 0 0; within 0 1 = STATE; end 0; within 0 1 = STATE");
        new Bench("Promise 34: a is 0 to 1000000").due(DAY, "hire 0 0 0 0; should 0 0 0 0 0; within -1 1 = ARGUMENT; "
            + "within 1000001 1 = ARGUMENT; within " + LEAST + " 1 = ARGUMENT; within " + GREATEST + " 1 = ARGUMENT; within 0 1 = 1; "
            + "within 1000000 1 = 1");
        new Bench("Promise 34: b is 1 to 1000000").due(DAY, "hire 0 0 0 0; should 0 0 0 0 0; within 0 0 = ARGUMENT; "
            + "within 0 -1 = ARGUMENT; within 0 1000001 = ARGUMENT; within 0 " + LEAST + " = ARGUMENT; within 0 " + GREATEST
            + " = ARGUMENT; within 0 1 = 1; within 0 1000000 = 1");
    }

    private static void withinEdges() {
        new Bench("Promise 34: they differ by just a step").due(DAY, "should 0 0 0 0 0; hire 0 0 0 0; run 30; within 0 1 = 1",
            "within 0 1000000 = 1; second; within 0 1 = 0; within 0 1000000 = 0; within 1 30 = 1; within 1 31 = 0");
        new Bench("Promise 34: likewise, the hire having fewer").due(DAY, "leg 0 30; should 0 0 0 0 0; hire 0 0 0 0; within 0 1 = 1",
            "leg 0 1; should 0 0 0 0 0; within 0 1 = 0; within 1 30 = 1; within 1 31 = 0");
        new Bench("Promise 34: a / b at its least above 0 and at its most").due(DAY, "set 0 4 1; should 0 0 0 0 0; hire 0 0 0 0; run 2",
            "within 1 1000000 = 0; within 999999 1000000 = 0; within 1000000 1000000 = 1; within 1 1 = 1; run 3838; within 1000000 1 = 1",
            "within 3838 1 = 0; within 3839 1 = 1; within 1000000 261 = 0; within 1000000 260 = 1");
        new Bench("Promise 34: the STEPS alone would be near, or far").due(DAY, "set 0 4 3; leg 0 2; should 0 0 0 0 0; hire 0 0 0 0",
            "run 6; error = 2; within 0 1 = 0; within 1 3 = 1; run 0; end 0; leg 0 3; should 0 0 0 0 0; error = 1; within 0 1 = 1");
        new Bench("Promise 34: TOTAL is STEPS and PART: a step more, but less of PART").due(DAY, "set 0 4 600; leg 0 599",
            "should 0 0 0 0 0; hire 0 0 0 0; run 1199; within 0 1 = 1; second; error = 2; within 0 1 = 0; within 1 600 = 1",
            "within 1 601 = 0");
    }

    private static void withinUnlikeParts() {
        new Bench("Promise 34: exactly: thirds and sevenths").due(DAY, "set 0 4 7; leg 0 2; should 0 0 0 0 0; set 0 4 3; hire 0 0 0 0",
            "run 4; within 1 21 = 1; within 1 22 = 0; within 47619 1000000 = 0; within 47620 1000000 = 1");
        new Bench("Promise 34: exactly: 2 / 7 and 1 / 11 ahead").due(DAY, "set 0 4 7; leg 0 9; should 0 0 0 0 0; set 0 4 11",
            "hire 0 0 0 0; second; within 15 77 = 1; within 14 77 = 0; within 15 78 = 0; within 194805 1000000 = 0",
            "within 194806 1000000 = 1");
        new Bench("Promise 34: exactly: a part of a millimetre").due(DAY, "wheel 104858 20 200; set 0 3 1000000; set 0 5 0; set 0 4 1",
            "row 0 2; pulse 0 1 1; should 0 0 0 0 0; hire 0 0 0 0; second = 1; within 0 1 = 1; second = 0; within 0 1 = 0",
            "within 0 1000000 = 0; within 1 1000000 = 1");
    }
}
