/** Promises 30 to 34. */
public final class TrackTest {
    private static final String DAY = "tariff 0; slot 0 1 0";

    public static void main(String[] args) {
        leg();
        clear();
        shouldWrong();
        should();
        shouldByKind();
        error();
        within();
        withinExactly();
        Bench.close();
    }

    private static void leg() {
        new Bench("30 leg").due(
            "leg -1 1 = ARGUMENT; leg 60001 1 = ARGUMENT; leg 0 0 = ARGUMENT; leg 0 3841 = ARGUMENT; leg 0 -1 = ARGUMENT; "
                + "leg 0 2147483647 = ARGUMENT; clear = 0",
            "leg 0 1 = 1; leg 60000 3838 = 3839; leg 5 2 = -1; leg 5 1 = 3840; leg 5 1 = -1; leg 5 0 = ARGUMENT; leg -1 1 = ARGUMENT; "
                + "clear = 3; leg 1 3840 = 3840");
        Bench bench = new Bench("30 twenty legs");
        for (int i = 1; i <= 20; i++) {
            bench.due("leg 0 2 = " + 2 * i);
        }
        bench.due("leg 0 1 = -1; leg 60001 1 = ARGUMENT; clear = 20; leg 0 7 = 7");
    }

    private static void clear() {
        new Bench("31 clear").due(DAY,
            "clear = 0; leg 0 30; leg 0 30; should 0 0 0 0 0 = 340; clear = 2; clear = 0; should 0 0 0 0 0 = 300; leg 0 30; "
                + "should 0 0 0 0 0 = 320; clear = 1");
    }

    private static void shouldWrong() {
        new Bench("32 should, wrong").due(
            "should 0 0 0 0 0 = NOSUCH; should -1 0 0 0 0 = INDEX; should 12 0 0 0 0 = INDEX; should 12 100 0 0 0 = INDEX",
            "should 0 -1 0 0 0 = ARGUMENT; should 0 100 0 0 0 = ARGUMENT; should 0 0 -1 0 0 = ARGUMENT; should 0 0 100 0 0 = ARGUMENT",
            "should 0 0 0 -1 0 = ARGUMENT; should 0 0 0 1440 0 = ARGUMENT; should 0 0 0 0 -1 = ARGUMENT; should 0 0 0 0 60 = ARGUMENT",
            "seal; slot 1 2 0; should 1 0 0 0 0 = ARGUMENT", DAY, "should 0 99 99 1439 59 = 300",
            "hire 0 0 0 0; error = 0; leg 0 30; should 0 0 100 0 0 = ARGUMENT; error = 0; should 5 0 0 0 0 = NOSUCH; error = 0; "
                + "should 0 0 0 0 0; error = -1");
    }

    private static void should() {
        new Bench("32 should").due(DAY, "leg 5000 29; should 0 0 0 0 0 = 300; leg 5000 1; should 0 0 0 0 0 = 320; clear",
            "leg 5001 19; should 0 0 0 0 0 = 300; leg 4981 1; should 0 0 0 0 0 = 300; leg 5000 28; should 0 0 0 0 0 = 320; clear",
            "leg 60000 3840; should 0 0 0 0 0 = 46380; set 0 3 10000; should 0 0 0 0 0 = 461100; set 0 1 50; should 0 0 0 0 0 = 460120");
        new Bench("32 should does not touch a hire, nor the wheel it").due(DAY,
            "wheel 1 0 200; leg 10000 10; hire 0 0 0 0; run 31; should 0 0 0 0 0 = 320; fare = 320; part 30 = 1; about 2 = 31; "
                + "about 3 = 1; end 0; again = 320; about 2 = 31");
    }

    private static void shouldByKind() {
        new Bench("32 night").due("tariff 1; slot 0 1 0; leg 0 60; should 0 0 0 1319 30 = 350; should 0 0 0 1319 0 = 340",
            "should 0 0 0 1320 0 = 360; should 0 0 0 359 1 = 350");
        new Bench("32 far").due("tariff 2; slot 0 1 0; set 0 9 20000; leg 10000 3; should 0 0 0 0 0; leg 10000 3; should 0 0 0 0 0 = 300",
            "leg 10000 1; should 0 0 0 0 0 = 320");
        new Bench("32 flat").due("tariff 3; slot 0 1 0; leg 0 60; should 0 0 1 0 0 = 4000; should 0 1 0 0 0 = 4000",
            "should 0 0 0 0 0 = 340; should 0 1 2 0 0 = 340",
            "should 0 0 1 0 0 = 4000; hire 0 0 0 0; error = -2");
        new Bench("32 call").due("tariff 4; slot 0 1 0; leg 0 30; should 0 0 0 0 0 = 420; should 0 0 0 0 0 = 420; set 0 14 1",
            "should 0 0 0 0 0 = 321");
    }

    private static void error() {
        new Bench("33 error").due("error = STATE", DAY,
            "should 0 0 0 0 0; error = STATE; hire 0 0 0 0; error = 0; run 90; error = 3; leg 0 150; error = 3; should 0 0 0 0 0; "
                + "error = -2; end 0; error = -2",
            "hire 0 0 0 0; error = -5; clear; error = -5");
        new Bench("33 a hire alone").due(DAY, "hire 0 0 0 0; error = STATE; end 0; error = STATE");
    }

    private static void within() {
        new Bench("34 within, wrong").due("within 0 1 = STATE; within -1 0 = STATE", DAY, "hire 0 0 0 0; within 0 1 = STATE; should 0 0 0 0 0",
            "within -1 1 = ARGUMENT; within 1000001 1 = ARGUMENT; within 0 0 = ARGUMENT; within 0 -1 = ARGUMENT; within 0 1000001 = ARGUMENT",
            "within 0 1 = 1; within 1000000 1000000 = 1; within 0 1000000 = 1; end 0; within 0 1 = 1");
        new Bench("34 should alone").due(DAY, "should 0 0 0 0 0; within 0 1 = STATE; within 0 0 = STATE");
        new Bench("34 within, the hire has more").due(DAY,
            "set 0 4 3; should 0 0 0 0 0; hire 0 0 0 0; run 3; within 0 1 = 1; second; within 0 1 = 0; within 1 3 = 1; "
                + "within 333333 1000000 = 0; within 333334 1000000 = 1",
            "end 0; within 1 3 = 1; within 1 4 = 0; set 0 4 100; within 1 3 = 1; within 333333 1000000 = 0");
        new Bench("34 within, the track has more").due(DAY,
            "set 0 4 3; leg 0 4; should 0 0 0 0 0; hire 0 0 0 0; within 0 1 = 0; within 1 3 = 1; within 333333 1000000 = 0; second; within 0 1 = 1",
            "run 3; within 0 1 = 1; run 3; within 0 1 = 1; second; within 0 1 = 0; within 1 3 = 1");
        new Bench("34 within many steps").due(DAY,
            "set 0 4 1; should 0 0 0 0 0; hire 0 0 0 0; run 3840; within 3838 1 = 0; within 3839 1 = 1; within 1000000 1 = 1; "
                + "within 1000000 260 = 1; within 1000000 261 = 0");
    }

    private static void withinExactly() {
        new Bench("34 unlike bottoms").due(DAY,
            "wheel 1 0 3; set 0 3 999983; set 0 4 599; set 0 5 0; row 0 60; pulse 0 0 1; leg 0 600; should 0 0 0 0 0; error = STATE",
            "hire 0 0 0 0; within 0 1 = 0; within 1 599 = 1; within 1 600 = 0; second; within 0 1 = 0; within 1 601 = 1; "
                + "within 1 748 = 1; within 1 749 = 0");
    }
}
