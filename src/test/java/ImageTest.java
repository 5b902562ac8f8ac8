/** Promises 35 and 36. */
public final class ImageTest {
    private static final String DAY = "tariff 0; slot 0 1 0";

    public static void main(String[] args) {
        keep();
        back();
        handsAndCalls();
        seals();
        Bench.close();
    }

    private static void keep() {
        new Bench("35 keep").due("keep = STATE", DAY, "hire 0 0 0 0; keep = 0; keep = 0; end 0; keep = STATE; hire 0 0 0 0; keep = 1",
            "end 0; hire 0 0 0 0; keep = 2");
    }

    private static void back() {
        new Bench("36 back, wrong").due("back = STATE", DAY,
            "hire 0 0 0 0; back = STATE; keep; back = 0; end 0; back = STATE; hire 0 0 0 0; back = STATE; keep; back = 0");
        new Bench("36 back").due(DAY,
            "set 0 1 2; set 0 4 7; row 0 12; pulse 0 3 10; hire 0 6 1439 55; run 4; extra 5; keep; about 8 = 0; run 20; extra 9; "
                + "about 11 = 0; back = 4",
            "fare = 305; part 7 = 4; about 1 = 1; about 2 = 4; about 3 = 0; about 4 = 1; about 5 = 5; about 6 = 5000; about 7 = 0; "
                + "about 8 = 0; about 11 = 1439",
            "dark 0 = NOSUCH; run 10; about 7 = 2; dark 1 = 13; keep; row 0 60; run 30; about 7 = 2; back = 14; dark 0 = 12; dark 1 = 13; "
                + "about 7 = 2; dark 2 = NOSUCH",
            "second; about 7 = 2; about 8 = 1; back = 14; about 8 = 0; back = 14; run 3840 = 3826; second = STATE; back = 14; second; "
                + "about 2 = 15; end 0; receipt 0 2 = 15");
        new Bench("36 the part of the image is its own").due(DAY,
            "set 0 4 3; row 0 60; pulse 0 5 11; pulse 0 6 13; set 0 3 999983; hire 0 0 0 0; run 2; keep; run 5; back = 2; part 3 = 2; "
                + "part 1000000 = 666666; second = 1; part 1000000 = 0");
        new Bench("36 the way of the image").due("tariff 2; slot 0 1 0; set 0 9 10000; wheel 10 0 1; row 0 60; pulse 0 0 1; pulse 0 1 1; pulse 0 2 1",
            "hire 0 0 0 0; second; keep; second; second; about 6 = 30000; part 100 = 40; back; about 6 = 10000; part 100 = 10; second; "
                + "part 100 = 20");
        new Bench("36 rows as they are now").due(DAY,
            "row 0 60; hire 0 0 0 0; run 5; keep; run 5; pulse 0 5 300; back = 5; about 6 = 0; second = 1; about 6 = 150000");
    }

    private static void handsAndCalls() {
        new Bench("36 hands and calls").due(
            "tariff 3; tariff 4; slot 0 1 0; slot 1 1 1; row 0 60; hire 0 0 0 0; keep; hand 1; fare = 400; about 10 = 1; back = 0; "
                + "about 9 = 0; about 10 = 0",
            "about 5 = 0; fare = 300; hand 1; about 5 = 100; back; end 1 = 4000; about 15 = 1");
        new Bench("36 a call that came ahead of the image does not come again").due(
            "tariff 0; tariff 4; slot 0 1 0; slot 1 1 1; hire 0 0 0 0; hand 1; hand 0; keep; hand 1; about 5 = 100; back; hand 1; "
                + "about 5 = 100; end 0 = 400; again = 400");
        new Bench("36 fifty hands").due("tariff 0; tariff 0; slot 0 1 0; slot 1 1 1; hire 0 0 0 0; keep")
            .times(25, "hand 1; hand 0").due("hand 1 = STATE; back; hand 1 = 1; about 10 = 1");
    }

    private static void seals() {
        new Bench("36 seals stay").due(DAY,
            "seal; seal; hire 0 0 0 0; keep; breaks 0; about 12 = 0; back; about 12 = 0; breaks 0 = 0; sets 0 = 1; back; about 12 = 0; "
                + "end 0; receipt 0 3 = 0");
    }
}
