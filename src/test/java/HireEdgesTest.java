/** The edges of promises 17 to 22, and when a hire STANDS; each bench is about one sentence. */
public final class HireEdgesTest {
    private static final String DAY = "tariff 0; slot 0 1 0";
    private static final String LEAST = "-2147483648";
    private static final String GREATEST = "2147483647";

    public static void main(String[] args) {
        hireArguments();
        hireHolding();
        hireAhead();
        mostHires();
        second();
        run();
        stands();
        hand();
        handAhead();
        mostHands();
        extra();
        end();
        Bench.close();
    }

    private static void hireArguments() {
        new Bench("Promise 17: slots are 0 to 11").due("tariff 0; slot 0 1 0; slot 11 1 0; hire -1 0 0 0 = INDEX; hire 12 0 0 0 = INDEX; "
            + "hire " + LEAST + " 0 0 0 = INDEX; hire " + GREATEST + " 0 0 0 = INDEX; fare = NOSUCH; hire 0 0 0 0 = 0; end 0; "
            + "hire 11 0 0 0 = 1");
        new Bench("Promise 17: zones are 0 to 99").due(DAY, "hire 0 -1 0 0 = ARGUMENT; hire 0 100 0 0 = ARGUMENT; hire 0 " + LEAST
            + " 0 0 = ARGUMENT; hire 0 " + GREATEST + " 0 0 = ARGUMENT; fare = NOSUCH; hire 0 0 0 0 = 0; about 13 = 0; end 0; "
            + "hire 0 99 0 0 = 1; about 13 = 99");
        new Bench("Promise 17: minutes are 0 to 1439").due(DAY, "hire 0 0 -1 0 = ARGUMENT; hire 0 0 1440 0 = ARGUMENT; hire 0 0 " + LEAST
            + " 0 = ARGUMENT; hire 0 0 " + GREATEST + " 0 = ARGUMENT; fare = NOSUCH; hire 0 0 0 0 = 0; about 11 = 0; end 0; "
            + "hire 0 0 1439 0 = 1; about 11 = 1439");
        new Bench("Promise 17: seconds are 0 to 59").due(DAY, "hire 0 0 0 -1 = ARGUMENT; hire 0 0 0 60 = ARGUMENT; hire 0 0 0 " + LEAST
            + " = ARGUMENT; hire 0 0 0 " + GREATEST + " = ARGUMENT; fare = NOSUCH; hire 0 0 7 0 = 0; run 59; about 11 = 7; second; "
            + "about 11 = 8; end 0; hire 0 0 7 59 = 1; about 11 = 7; second; about 11 = 8");
    }

    private static void hireHolding() {
        new Bench("Promise 17: the slot holds nothing").due(DAY, "hire 1 0 0 0 = NOSUCH; slot 0 0 0; hire 0 0 0 0 = NOSUCH; fare = NOSUCH");
        new Bench("Promise 17: the slot holds a seal").due(DAY, "seal; slot 1 2 0; hire 1 0 0 0 = ARGUMENT; fare = NOSUCH; since 0 = 0");
        for (int kind = 0; kind < 5; kind++) {
            new Bench("Promise 17: the slot holds a tariff of kind " + kind).due("tariff " + kind + "; slot 7 1 0; hire 7 0 0 0 = 0; about 9 = 0");
        }
        new Bench("Promise 17: a refused hire takes no number").due(DAY, "hire 12 0 0 0 = INDEX; hire 0 100 0 0 = ARGUMENT",
            "hire 1 0 0 0 = NOSUCH; hire 0 0 0 0 = 0; hire 0 0 0 0 = STATE; end 0; hire 0 0 1440 0 = ARGUMENT; hire 0 0 0 0 = 1");
        new Bench("Promise 17: a refused hire leaves the one that runs, or the latest").due(DAY, "hire 0 5 0 0; extra 3; second",
            "hire 0 6 0 0 = STATE; about 13 = 5; fare = 303; about 2 = 1; end 0; hire 0 100 0 0 = ARGUMENT; hire 1 6 0 0 = NOSUCH",
            "about 0 = 0; about 1 = 0; fare = 303; about 13 = 5; pay 303 = 0");
    }

    private static void hireAhead() {
        String hired = "tariff 0; slot 0 1 0; seal; slot 1 2 0; hire 0 0 0 0";
        new Bench("Promise 17: IllegalStateException is ahead of IndexOutOfBoundsException").due(hired, "hire 12 0 0 0 = STATE",
            "hire -1 0 0 0 = STATE; end 0; hire 12 0 0 0 = INDEX");
        new Bench("Promise 17: IllegalStateException is ahead of NoSuchElementException").due(hired, "hire 2 0 0 0 = STATE; end 0",
            "hire 2 0 0 0 = NOSUCH");
        new Bench("Promise 17: IllegalStateException is ahead of IllegalArgumentException").due(hired, "hire 1 0 0 0 = STATE",
            "hire 0 100 0 0 = STATE; hire 0 0 1440 0 = STATE; hire 0 0 0 60 = STATE; end 0; hire 1 0 0 0 = ARGUMENT");
        new Bench("Promise 17: wrong numbers are ahead of a slot that holds nothing").due("hire 0 100 0 0 = ARGUMENT",
            "hire 0 -1 0 0 = ARGUMENT; hire 0 0 1440 0 = ARGUMENT; hire 0 0 -1 0 = ARGUMENT; hire 0 0 0 60 = ARGUMENT",
            "hire 0 0 0 -1 = ARGUMENT; hire 0 0 0 0 = NOSUCH");
        new Bench("Promise 17: wrong numbers and a slot that holds a seal").due("seal; slot 0 2 0; hire 0 100 0 0 = ARGUMENT",
            "hire 0 0 1440 0 = ARGUMENT; hire 0 0 0 60 = ARGUMENT; hire 0 0 0 0 = ARGUMENT");
    }

    private static void mostHires() {
        Bench bench = new Bench("Promise 17: NONE: there were 4000").withMoreCalls().due(DAY);
        for (int h = 0; h < 4000; h++) {
            bench.due("hire 0 0 0 0 = " + h + "; end 0 = 300");
        }
        bench.due("hire 0 0 0 0 = -1; about 0 = 3999; about 1 = 0; second = STATE; receipt 3999 0 = 300; receipt 4000 0 = NOSUCH",
            "pay 300 = 0; hire 0 0 0 0 = -1; about 16 = 1");
    }

    private static void second() {
        new Bench("Promise 18: no hire runs").due("second = STATE", DAY, "second = STATE; hire 0 0 0 0; second = 0; end 0",
            "second = STATE; about 2 = 1");
        new Bench("Promise 18: the 3840th second is run, another one not").due(DAY, "hire 0 0 0 0; run 3839 = 3839; second = 1",
            "about 2 = 3840; second = STATE; about 2 = 3840; about 3 = 128; about 7 = 3840; fare = 2860");
        new Bench("Promise 18: no step, one, 500").due(DAY, "wheel 10 0 1; set 0 3 10000; row 0 3; pulse 0 1 1; pulse 0 2 500",
            "hire 0 0 0 0; second = 0; second = 1; second = 500");
        new Bench("Promise 18: PAID steps fall due, too").due(DAY, "set 0 1 50; set 0 4 1; hire 0 0 0 0; second = 1; about 3 = 1; fare = 300");
    }

    private static void run() {
        new Bench("Promise 19: no hire runs").due("run 0 = STATE; run 1 = STATE", DAY, "run 1 = STATE; hire 0 0 0 0; run 1 = 1; end 0",
            "run 1 = STATE; run 0 = STATE; about 2 = 1");
        new Bench("Promise 19: n is 0 to 3840").due(DAY, "hire 0 0 0 0; run -1 = ARGUMENT; run 3841 = ARGUMENT; run " + LEAST
            + " = ARGUMENT; run " + GREATEST + " = ARGUMENT; about 2 = 0; run 0 = 0; about 2 = 0; run 3840 = 3840; about 2 = 3840");
        new Bench("Promise 19: those up to 3840").due(DAY, "hire 0 0 0 0; run 3838 = 3838; run 1 = 1; run 2 = 1; about 2 = 3840",
            "run 1 = 0; run 0 = 0; run 3840 = 0; run 3841 = ARGUMENT; run -1 = ARGUMENT; about 2 = 3840; about 7 = 3840");
        new Bench("Promise 19: run is as many seconds").due(DAY, "row 0 9; pulse 0 3 20; pulse 0 8 30; hire 0 0 0 0; run 9 = 9",
            "about 6 = 25000; part 300 = 145; end 0; hire 0 0 0 0").times(9, "second = 0").due("about 6 = 25000; part 300 = 145");
    }

    private static void stands() {
        new Bench("Terms 3: it STANDS as long as no second was run").due(DAY, "hire 0 0 0 0; about 8 = 1; run 0; about 8 = 1; hand 0 = 0");
        new Bench("Terms 3: it STANDS if the latest second had no pulses").due(DAY, "row 0 3; pulse 0 1 1; hire 0 0 0 0; second",
            "about 8 = 1; hand 0 = 0; second; about 8 = 0; hand 0 = STATE; second; about 8 = 1; hand 0 = 0");
        new Bench("Terms 3: it does not STAND if the latest second was dark").due(DAY, "row 0 1; row 1 2; hire 0 0 0 0; second",
            "about 8 = 1; second; about 8 = 0; hand 0 = STATE; run 58; about 8 = 0; second; about 8 = 1; hand 0 = 0");
        new Bench("Terms 3: laying the row anew does not change the latest second").due(DAY, "hire 0 0 0 0; second; about 8 = 0",
            "row 0 60; about 8 = 0; hand 0 = STATE; second; about 8 = 1; tear 0 -1; about 8 = 1; hand 0 = 0; row 0 60; pulse 0 1 9",
            "about 8 = 1");
    }

    private static void hand() {
        String hired = "tariff 0; tariff 1; seal; slot 0 1 0; slot 1 1 1; slot 2 2 0; slot 10 1 0; slot 11 1 1; hire 0 0 0 0";
        new Bench("Promise 20: slots are 0 to 11").due(hired, "hand -1 = INDEX; hand 12 = INDEX; hand " + LEAST + " = INDEX; hand "
            + GREATEST + " = INDEX; about 9 = 0; about 10 = 0; hand 11 = 1; about 9 = 1; hand 0 = 1; about 9 = 0; about 10 = 2");
        new Bench("Promise 20: the slot holds nothing, or a seal").due(hired, "hand 3 = NOSUCH; hand 2 = ARGUMENT; about 9 = 0",
            "about 10 = 0; since 0 = 0");
        new Bench("Promise 20: whether that is another one").due(hired, "hand 0 = 0; hand 10 = 0; about 10 = 0; hand 1 = 1; hand 11 = 0",
            "hand 1 = 0; about 10 = 1; hand 10 = 1; about 10 = 2");
        new Bench("Promise 20: another one of the same kind and numbers is another one").due("tariff 0; tariff 0; slot 0 1 0; slot 1 1 1",
            "hire 0 0 0 0; hand 1 = 1; about 9 = 1; about 10 = 1");
        new Bench("Terms 3: PART, PAID steps stay, FIRST price does not come again").due(hired.replace("hire 0 0 0 0", "set 0 1 5; "
            + "set 1 1 9; set 1 0 77; row 0 60; hire 0 0 0 0"), "run 10; part 30 = 10; hand 1; part 30 = 10; about 4 = 4; fare = 300",
            "about 3 = 0; about 2 = 10");
        new Bench("Promise 20: 12 tariffs at hand, one by one").times(12, "tariff 0").due(slots(12), "hire 0 0 0 0").due(hands(12));
    }

    private static String slots(int n) {
        StringBuilder calls = new StringBuilder("slot 0 1 0");
        for (int i = 1; i < n; i++) {
            calls.append("; slot ").append(i).append(" 1 ").append(i);
        }
        return calls.toString();
    }

    private static String hands(int n) {
        StringBuilder calls = new StringBuilder("hand 0 = 0");
        for (int i = 1; i < n; i++) {
            calls.append("; hand ").append(i).append(" = 1; about 9 = ").append(i).append("; about 10 = ").append(i);
        }
        return calls.toString();
    }

    private static void handAhead() {
        String setUp = "tariff 0; seal; slot 0 1 0; slot 1 2 0";
        String wrong = "hand 0 = STATE; hand 12 = STATE; hand -1 = STATE; hand 1 = STATE; hand 2 = STATE";
        new Bench("Promise 20: no hire runs, ahead of all").due(setUp, wrong, "hire 0 0 0 0; hand 12 = INDEX; hand 1 = ARGUMENT",
            "hand 2 = NOSUCH; end 0", wrong);
        new Bench("Promise 20: the latest second had pulses, ahead of all").due(setUp, "row 0 2; pulse 0 0 1; hire 0 0 0 0; second",
            wrong, "second; hand 12 = INDEX; hand 1 = ARGUMENT; hand 2 = NOSUCH; hand 0 = 0");
        new Bench("Promise 20: the latest second was dark, ahead of all").due(setUp, "hire 0 0 0 0; second", wrong);
        new Bench("Promise 20: there were 50 HANDS, ahead of all").due(setUp, "tariff 0; slot 3 1 1; hire 0 0 0 0").times(25, "hand 3; "
            + "hand 0").due(wrong, "hand 3 = STATE");
    }

    private static void mostHands() {
        String setUp = "tariff 0; tariff 0; slot 0 1 0; slot 1 1 1; row 0 60; hire 0 0 0 0";
        new Bench("Promise 20: the 50th HAND is taken, another one not").due(setUp).times(24, "hand 1 = 1; hand 0 = 1").due("hand 1 = 1",
            "about 10 = 49; hand 0 = 1; about 10 = 50; hand 1 = STATE; hand 0 = STATE; about 10 = 50; about 9 = 0; second",
            "hand 1 = STATE; end 0; hire 0 0 0 0; hand 1 = 1");
        new Bench("Promise 20: hands that put no other one there do not count").due(setUp).times(60, "hand 0 = 0").times(25, "hand 1 = 1; "
            + "hand 1 = 0; hand 0 = 1").due("about 10 = 50; hand 1 = STATE");
        new Bench("Promise 20: nor do refused ones").due(setUp).times(60, "hand 12 = INDEX; hand 2 = NOSUCH").times(25, "hand 1 = 1; "
            + "hand 0 = 1").due("about 10 = 50; hand 1 = STATE");
    }

    private static void extra() {
        new Bench("Promise 21: no hire runs").due("extra 0 = STATE; extra 1 = STATE", DAY, "extra 1 = STATE; hire 0 0 0 0; extra 1 = 1",
            "end 0; extra 1 = STATE; fare = 301; about 5 = 1");
        new Bench("Promise 21: amounts are 0 to 10000").due(DAY, "hire 0 0 0 0; extra -1 = ARGUMENT; extra 10001 = ARGUMENT; extra "
            + LEAST + " = ARGUMENT; extra " + GREATEST + " = ARGUMENT; about 5 = 0; fare = 300; extra 0 = 0; fare = 300; "
            + "extra 10000 = 10000; fare = 10300; extra 10000 = 20000; fare = 20300; about 5 = 20000");
        new Bench("Promise 21: the EXTRAS have that of a CALL, too").due("tariff 4; slot 0 1 0; hire 0 0 0 0; extra 0 = 100",
            "extra 7 = 107; fare = 407");
        new Bench("Promise 21: whether it STANDS or not").due(DAY, "hire 0 0 0 0; second; about 8 = 0; extra 4 = 4; run 3840; extra 4 = 8");
    }

    private static void end() {
        new Bench("Promise 22: no hire runs").due("end 0 = STATE", DAY, "end 0 = STATE; hire 0 0 0 0; end 0 = 300; end 0 = STATE",
            "end 1 = STATE; about 14 = 0");
        new Bench("Promise 22: zones are 0 to 99").due(DAY, "hire 0 5 0 0; end -1 = ARGUMENT; end 100 = ARGUMENT; end " + LEAST
            + " = ARGUMENT; end " + GREATEST + " = ARGUMENT; about 1 = 1; about 14 = -1; receipt 0 0 = NOSUCH; end 0 = 300; about 14 = 0; "
            + "hire 0 5 0 0; about 14 = -1; end 99 = 300; about 14 = 99");
        new Bench("Promise 22: a hire of no seconds, and one of all").due(DAY, "hire 0 0 0 0; end 0 = 300; receipt 0 2 = 0; hire 0 0 0 0",
            "run 3840; end 0 = 2860; receipt 1 2 = 3840; receipt 1 1 = 128");
        new Bench("Promise 22: whether it STANDS or not").due(DAY, "row 0 1; pulse 0 0 1; hire 0 0 0 0; second; about 8 = 0; end 0 = 300",
            "about 1 = 0");
    }
}
