/** The edges of promises 35 and 36; each bench is about one sentence. */
public final class ImageEdgesTest {
    private static final String DAY = "tariff 0; slot 0 1 0";

    public static void main(String[] args) {
        keep();
        backStates();
        wholeImage();
        seconds();
        darkAndStands();
        hands();
        callsAndFlats();
        partsOfImages();
        seals();
        restStays();
        Bench.close();
    }

    private static void keep() {
        new Bench("Promise 35: no hire runs").due("keep = STATE", DAY, "keep = STATE; hire 0 0 0 0; keep = 0; end 0; keep = STATE");
        new Bench("Promise 35: its number").due(DAY, "hire 0 0 0 0; keep = 0; keep = 0; end 0; hire 0 0 0 0; end 0; hire 0 0 0 0; keep = 2");
        new Bench("Promise 35: one image is kept, the latest").due(DAY, "hire 0 0 0 0; run 3; keep; run 4; keep; run 5; back = 7",
            "back = 7; about 2 = 7");
        new Bench("Promise 35: a refused keep() leaves the image").due(DAY, "hire 0 0 0 0; run 3; keep; end 0; keep = STATE",
            "hire 0 0 0 0; back = STATE; run 2; keep = 1; run 2; back = 2");
        new Bench("Promise 35: keeping leaves the hire").due(DAY, "hire 0 0 0 0; run 31; extra 4; keep; fare = 324; part 30 = 1",
            "about 2 = 31; about 7 = 31; about 8 = 0; second; about 2 = 32");
    }

    private static void backStates() {
        new Bench("Promise 36: no hire runs").due("back = STATE", DAY, "back = STATE; hire 0 0 0 0; keep; end 0; back = STATE",
            "about 1 = 0; fare = 300");
        new Bench("Promise 36: there is no image").due(DAY, "hire 0 0 0 0; back = STATE; run 2; back = STATE; about 2 = 2");
        new Bench("Promise 36: there is an image of another hire alone").due(DAY, "hire 0 0 0 0; run 3; keep; end 0; hire 0 0 0 0",
            "back = STATE; second; back = STATE; about 2 = 1; about 0 = 1; keep; back = 1");
    }

    private static void wholeImage() {
        new Bench("Promise 36: all of 3. becomes what it was").due("tariff 4; tariff 0; slot 0 1 0; slot 1 1 1; set 0 1 5; row 0 60",
            "pulse 0 0 25; pulse 0 40 400; hire 0 6 1438 50; run 33; hand 1; extra 7; keep",
            "fare = 407; part 600 = 115; about 2 = 33; about 3 = 1; about 4 = 3; about 5 = 107; about 6 = 12500; about 7 = 0; "
                + "about 8 = 1; about 9 = 1; about 10 = 1; about 11 = 1439",
            "hand 0; run 30; extra 9; run 900; back = 33",
            "fare = 407; part 600 = 115; about 2 = 33; about 3 = 1; about 4 = 3; about 5 = 107; about 6 = 12500; about 7 = 0; "
                + "about 8 = 1; about 9 = 1; about 10 = 1; about 11 = 1439; about 13 = 6; about 14 = -1; about 15 = 0; about 16 = 0; "
                + "about 0 = 0; about 1 = 1");
        new Bench("Promise 36: and goes on from there as it did").due(DAY, "row 0 60; pulse 0 5 33; hire 0 0 0 0; run 4; keep; run 50",
            "fare = 320; part 600 = 559; about 6 = 16500; back = 4; run 50 = 50; fare = 320; part 600 = 559; about 6 = 16500",
            "end 0 = 320; again = 320");
    }

    private static void seconds() {
        new Bench("Promise 36: how many seconds were run: none").due(DAY, "hire 0 0 0 0; keep; run 9; back = 0; about 2 = 0; about 8 = 1",
            "fare = 300; back = 0");
        new Bench("Promise 36: how many seconds were run: all").due(DAY, "hire 0 0 0 0; run 3840; keep; extra 5; back = 3840",
            "fare = 2860; second = STATE; run 1 = 0; about 7 = 3840");
        new Bench("Promise 36: from the last second back").due(DAY, "hire 0 0 0 0; run 3839; keep; second; second = STATE; back = 3839",
            "second = 1; second = STATE; about 7 = 3840; dark 3839 = 3839; dark 3840 = NOSUCH");
        new Bench("Promise 36: again and again").due(DAY, "hire 0 0 0 0; run 5; keep").times(9, "run 3840 = 3835; about 7 = 3840; "
            + "back = 5; about 7 = 5; fare = 300").due("end 0 = 300; receipt 0 2 = 5");
    }

    private static void darkAndStands() {
        new Bench("Promise 36: DARK seconds").due(DAY, "row 0 2; hire 0 0 0 0; run 4; keep; run 3; dark 4 = 6; row 0 5; back = 4",
            "about 7 = 2; dark 1 = 3; dark 2 = NOSUCH; run 3; about 7 = 4; dark 2 = 5; dark 3 = 6");
        new Bench("Promise 36: whether it STANDS").due(DAY, "row 0 3; pulse 0 1 4; hire 0 0 0 0; second; keep; second; about 8 = 0; back",
            "about 8 = 1; hand 0 = 0; second; keep; second; about 8 = 1; back; about 8 = 0; hand 0 = STATE");
    }

    private static void hands() {
        String setUp = "tariff 0; tariff 0; slot 0 1 0; slot 1 1 1; set 0 4 1; set 1 4 1; set 1 2 7; row 0 60; hire 0 0 0 0";
        new Bench("Promise 36: HANDS since are undone").due(setUp, "run 2; hand 1; keep; run 2; hand 0; run 2; back = 2; about 9 = 1",
            "about 10 = 1; run 3; end 0 = 361; again = 361");
        new Bench("Promise 36: other HANDS come in their place").due(setUp, "keep; hand 1; run 5; hand 0; back = 0; run 1; hand 1; run 1",
            "hand 0; run 1; hand 1; end 0 = 347; about 10 = 3; again = 347");
        new Bench("Promise 36: 50 HANDS, and back to none").due(setUp, "keep").times(25, "hand 1; hand 0").due("hand 1 = STATE; back",
            "about 10 = 0").times(25, "hand 1 = 1; hand 0 = 1").due("hand 1 = STATE; about 10 = 50");
        new Bench("Promise 36: back to 49 and to 50 HANDS").due(setUp).times(24, "hand 1; hand 0").due("hand 1; keep; hand 0",
            "hand 1 = STATE; back; about 10 = 49; hand 0 = 1; hand 1 = STATE; keep; back; hand 1 = STATE; about 10 = 50");
    }

    private static void callsAndFlats() {
        String setUp = "tariff 3; tariff 4; slot 0 1 0; slot 1 1 1; hire 0 0 0 0";
        new Bench("Promise 36: EXTRA of a CALL that came since comes anew").due(setUp, "keep; hand 1; about 5 = 100; back; about 5 = 0",
            "fare = 300; hand 1; about 5 = 100; fare = 400");
        new Bench("Promise 36: EXTRA of a CALL that came before does not").due(setUp, "hand 1; keep; hand 0; hand 1; about 5 = 100; back",
            "about 5 = 100; hand 0; hand 1; about 5 = 100; fare = 400");
        new Bench("Promise 36: a FLAT which a HAND since took away").due(setUp, "keep; hand 1; hand 0; back; end 1 = 4000; about 15 = 1",
            "again = 4000");
        new Bench("Promise 36: a FLAT which a HAND before took away").due(setUp, "hand 1; hand 0; keep; back; end 1 = 400; about 15 = 0",
            "again = 400");
        new Bench("Promise 36: extra() since is undone, for again(), too").due(DAY, "hire 0 0 0 0; extra 1; keep; extra 20; back",
            "about 5 = 1; fare = 301; extra 300 = 301; end 0 = 601; again = 601");
    }

    private static void partsOfImages() {
        new Bench("Promise 36: PART, exactly").due("tariff 0; tariff 0; slot 0 1 0; slot 1 1 1; set 0 4 7; set 1 4 599; set 1 3 999983",
            "set 1 5 0; row 0 60; pulse 0 3 1; hire 0 0 0 0; run 2; keep; hand 1; run 9; back; part 7 = 2; part 1000000 = 285714; run 4",
            "part 7 = 6; second = 1; part 1000000 = 0");
        new Bench("Promise 36: the image's PART does not go on with the hire's").due(DAY, "set 0 4 3; hire 0 0 0 0; second; keep; second",
            "back; part 3 = 1; second; part 3 = 2; back; part 3 = 1");
        new Bench("Promise 36: WAY, exactly").due("wheel 1 0 3; tariff 2; slot 0 1 0; set 0 9 333; set 0 5 0; row 0 60; pulse 0 0 1",
            "pulse 0 1 3; hire 0 0 0 0; second; keep; second; part 300000 = 7000; back; about 6 = 333; second; part 300000 = 7000",
            "about 6 = 1333");
        new Bench("Promise 36: error() and within() of what it was").due(DAY, "set 0 4 3; should 0 0 0 0 0; hire 0 0 0 0; run 3; keep",
            "second; error = 1; within 0 1 = 0; back; error = 1; within 0 1 = 1");
    }

    private static void seals() {
        new Bench("Promise 36: SEALS stay as they are").due(DAY, "seal; seal; breaks 1; hire 0 0 0 0; keep; breaks 0; sets 1; seal; back",
            "since 0 = -1; since 1 = 1; since 2 = 1; breaks 0 = 0; sets 1 = 0");
        new Bench("Promise 36: whether it is SEALED stays: broken since").due(DAY, "seal; hire 0 0 0 0; keep; breaks 0; back",
            "about 12 = 0; sets 0; back; about 12 = 0; end 0; receipt 0 3 = 0");
        new Bench("Promise 36: whether it is SEALED stays: broken before").due(DAY, "seal; hire 0 0 0 0; breaks 0; keep; sets 0; back",
            "about 12 = 0; end 0; receipt 0 3 = 0");
        new Bench("Promise 36: whether it is SEALED stays: whole").due(DAY, "seal; hire 0 0 0 0; keep; seal; breaks 1; back",
            "about 12 = 1; end 0; receipt 0 3 = 1");
    }

    private static void restStays() {
        new Bench("Promise 36: ROWS stay as they are").due(DAY, "row 0 9; hire 0 0 0 0; run 3; keep; run 2; pulse 0 3 200; tear 0 4",
            "back; pulses 0 3 = 200; pulses 0 4 = -1; second = 1; second; about 7 = 1; dark 0 = 4");
        new Bench("Promise 36: TARIFFS, SLOTS, LEGS stay as they are").due(DAY, "hire 0 0 0 0; keep; tariff 1; slot 1 1 1; leg 0 30",
            "should 0 0 0 0 0; back; number 1 6 = 1320; kind 1 = 1; error = -1; clear = 1; hand 1 = 1");
    }
}
