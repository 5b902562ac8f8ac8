/** The edges of 'Terms' 2 and of promises 7 to 11; each bench is about one sentence. */
public final class TariffEdgesTest {
    private static final String LEAST_INT = "-2147483648";
    private static final String GREATEST_INT = "2147483647";
    private static final int[] FIRST = {300, 1, 20, 100000, 30, 5000, 1320, 360, 30, 10000000, 50000, 0, 1, 4000, 100};
    private static final int[] LEAST = {0, 1, 0, 10000, 1, 0, 0, 0, 0, 0, 10000, 0, 0, 0, 0};
    private static final int[] MOST = {
        10000, 50, 10000, 1000000, 600, 60000, 1439, 1439, 10000, 100000000, 1000000, 99, 99, 1000000, 10000
    };
    /** Which kinds have each number. */
    private static final String[] KINDS = {
        "01234", "01234", "01234", "01234", "01234", "01234", "1", "1", "1", "23", "23", "3", "3", "3", "4"
    };

    public static void main(String[] args) {
        tariff();
        numbersOfKinds();
        set();
        setAhead();
        number();
        slot();
        slotFull();
        kind();
        Bench.close();
    }

    private static void tariff() {
        new Bench("Promise 7: kinds are 0 to 4").due("tariff -1 = ARGUMENT; tariff 5 = ARGUMENT; tariff " + LEAST_INT + " = ARGUMENT; "
            + "tariff " + GREATEST_INT + " = ARGUMENT; number 0 0 = INDEX",
            "tariff 0 = 0; tariff 1 = 1; tariff 2 = 2; tariff 3 = 3; tariff 4 = 4; slot 0 1 0; slot 1 1 1; slot 2 1 2; slot 3 1 3; slot 4 1 4",
            "kind 0 = 0; kind 1 = 1; kind 2 = 2; kind 3 = 3; kind 4 = 4");
        for (int kind = 0; kind < 5; kind++) {
            new Bench("Promise 7: there are at most 12, kind " + kind).times(11, "tariff " + kind).due("tariff " + kind + " = 11; "
                + "tariff " + kind + " = -1; number 11 0 = 300; number 12 0 = INDEX; slot 0 1 11; slot 0 1 12 = NOSUCH");
        }
        new Bench("Promise 7: a refused kind is not counted").due("tariff 5 = ARGUMENT; tariff 0 = 0; tariff -1 = ARGUMENT",
            "tariff 0 = 1").times(10, "tariff 1; tariff 5 = ARGUMENT").due("tariff 1 = -1; tariff 5 = ARGUMENT");
        new Bench("Promise 7: NONE leaves the 12 as they are").times(12, "tariff 0").due("set 11 0 7; tariff 1 = -1; number 11 0 = 7",
            "number 11 6 = NOSUCH; number 0 0 = 300; slot 0 1 0; kind 0 = 0");
        new Bench("Promise 7: numbers as at first, whatever others were set to").due("tariff 0; set 0 0 1; set 0 5 1; tariff 0 = 1",
            "number 1 0 = 300; number 1 5 = 5000");
        new Bench("Promise 7: a tariff more while a hire runs").due("tariff 0; slot 0 1 0; hire 0 0 0 0; tariff 1 = 1; number 1 6 = 1320",
            "slot 1 1 1; hand 1 = 1; about 9 = 1");
    }

    private static void numbersOfKinds() {
        for (int kind = 0; kind < 5; kind++) {
            for (int what = 0; what < FIRST.length; what++) {
                String title = "number " + what + " of kind " + kind;
                if (KINDS[what].indexOf('0' + kind) >= 0) {
                    oneNumber(title, kind, what);
                } else {
                    new Bench("Promise 8: there is no " + title).due("tariff " + kind + "; number 0 " + what + " = NOSUCH",
                        "set 0 " + what + " " + LEAST[what] + " = NOSUCH; set 0 " + what + " " + FIRST[what] + " = NOSUCH; set 0 " + what
                            + " " + MOST[what] + " = NOSUCH");
                }
            }
        }
    }

    private static void oneNumber(String title, int kind, int what) {
        String make = "tariff " + kind + "; tariff " + kind;
        String set = "set 0 " + what + " ";
        String number = "number 0 " + what + " = ";
        new Bench("Promise 9: at first, " + title).due(make, number + FIRST[what]);
        new Bench("Promise 8: the least " + title).due(make, set + (LEAST[what] - 1) + " = ARGUMENT", number + FIRST[what], set
            + LEAST[what] + " = " + FIRST[what], number + LEAST[what],
            set + (LEAST[what] - 1) + " = ARGUMENT", set + LEAST_INT + " = ARGUMENT", number + LEAST[what]);
        new Bench("Promise 8: the greatest " + title).due(make, set + (MOST[what] + 1) + " = ARGUMENT", number + FIRST[what], set
            + MOST[what] + " = " + FIRST[what], number + MOST[what],
            set + (MOST[what] + 1) + " = ARGUMENT", set + GREATEST_INT + " = ARGUMENT", number + MOST[what]);
        Bench others = new Bench("Promise 8: set leaves all other numbers, " + title).due(make, set + MOST[what]);
        for (int other = 0; other < FIRST.length; other++) {
            if (KINDS[other].indexOf('0' + kind) >= 0) {
                others.due("number 1 " + other + " = " + FIRST[other], "number 0 " + other + " = " + (other == what ? MOST[what] : FIRST[other]));
            }
        }
    }

    private static void set() {
        new Bench("Promise 8: no such tariff").due("set 0 0 1 = INDEX; tariff 0; tariff 0; set -1 0 1 = INDEX; set 2 0 1 = INDEX; "
            + "set 1 0 1 = 300; set 0 0 2 = 300; set " + LEAST_INT + " 0 1 = INDEX; set " + GREATEST_INT + " 0 1 = INDEX");
        new Bench("Promise 8: the twelfth tariff is the last one").times(12, "tariff 0").due("set 11 0 1 = 300; set 12 0 1 = INDEX",
            "number 11 0 = 1; number 12 0 = INDEX");
        new Bench("Promise 8: no such number").due("tariff 3; set 0 -1 1 = NOSUCH; set 0 15 1 = NOSUCH; set 0 " + LEAST_INT
            + " 1 = NOSUCH; set 0 " + GREATEST_INT + " 1 = NOSUCH");
        new Bench("Promise 8: a refused set leaves the number").due("tariff 0; set 0 4 600; set 0 4 0 = ARGUMENT; set 0 4 601 = ARGUMENT",
            "number 0 4 = 600; set 0 4 600 = 600");
    }

    private static void setAhead() {
        new Bench("Promise 8: a hire runs").due("tariff 0; slot 0 1 0; tariff 0; set 1 0 5 = 300; hire 0 0 0 0; set 1 0 6 = STATE",
            "set 0 0 6 = STATE; number 1 0 = 5; end 0; set 1 0 6 = 5");
        String hired = "tariff 0; slot 0 1 0; hire 0 0 0 0";
        new Bench("Promise 8: IllegalStateException is ahead of IndexOutOfBoundsException").due(hired, "set 1 0 1 = STATE",
            "set -1 0 1 = STATE; end 0; set 1 0 1 = INDEX");
        new Bench("Promise 8: IllegalStateException is ahead of NoSuchElementException").due(hired, "set 0 6 1 = STATE",
            "set 0 -1 1 = STATE; set 0 15 1 = STATE; end 0; set 0 6 1 = NOSUCH");
        new Bench("Promise 8: IllegalStateException is ahead of IllegalArgumentException").due(hired, "set 0 0 -1 = STATE",
            "set 0 0 10001 = STATE; end 0; set 0 0 -1 = ARGUMENT");
    }

    private static void number() {
        new Bench("Promise 9: no such tariff").due("number 0 0 = INDEX; tariff 0; number -1 0 = INDEX; number 1 0 = INDEX; "
            + "number 0 0 = 300; number " + LEAST_INT + " 0 = INDEX; number " + GREATEST_INT + " 0 = INDEX; number 11 0 = INDEX");
        new Bench("Promise 9: no such number").due("tariff 4; number 0 -1 = NOSUCH; number 0 15 = NOSUCH; number 0 14 = 100; "
            + "number 0 13 = NOSUCH; number 0 6 = NOSUCH; number 0 5 = 5000; number 0 " + LEAST_INT + " = NOSUCH; number 0 "
            + GREATEST_INT + " = NOSUCH");
        new Bench("Promise 9: while a hire runs").due("tariff 0; slot 0 1 0; hire 0 0 0 0; number 0 0 = 300; number 0 6 = NOSUCH",
            "number 1 0 = INDEX");
    }

    private static void slot() {
        new Bench("Promise 10: slots are 0 to 11").due("tariff 1; slot 0 1 0 = -1; slot 11 1 0 = -1; slot -1 1 0 = INDEX; "
            + "slot 12 1 0 = INDEX; slot " + LEAST_INT + " 1 0 = INDEX; slot " + GREATEST_INT + " 1 0 = INDEX; kind 0 = 1; kind 11 = 1; "
            + "kind 1 = -1; kind 10 = -1");
        new Bench("Promise 10: sorts are 0 to 2").due("tariff 1; seal; slot 0 -1 0 = ARGUMENT; slot 0 3 0 = ARGUMENT; slot 0 "
            + LEAST_INT + " 0 = ARGUMENT; slot 0 " + GREATEST_INT + " 0 = ARGUMENT; kind 0 = -1; slot 0 2 0 = -1; slot 0 1 0 = 5; "
            + "slot 0 0 0 = 1; kind 0 = -1");
        new Bench("Promise 10: there is no such tariff").due("seal; seal; slot 0 1 0 = NOSUCH; tariff 1; slot 0 1 0 = -1; "
            + "slot 0 1 1 = NOSUCH; slot 0 1 -1 = NOSUCH; slot 0 1 " + LEAST_INT + " = NOSUCH; slot 0 1 " + GREATEST_INT + " = NOSUCH; "
            + "kind 0 = 1; tariff 2; slot 0 1 1 = 1; kind 0 = 2");
        new Bench("Promise 10: there is no such seal").due("tariff 0; tariff 0; slot 0 2 0 = NOSUCH; seal; slot 0 2 0 = -1; "
            + "slot 0 2 1 = NOSUCH; slot 0 2 -1 = NOSUCH; slot 0 2 " + LEAST_INT + " = NOSUCH; slot 0 2 " + GREATEST_INT + " = NOSUCH; "
            + "kind 0 = 5; seal; slot 0 2 1 = 5");
        new Bench("Promise 10: with sort 0 the number is not looked at").due("slot 0 0 -1 = -1; slot 0 0 99 = -1; slot 0 0 " + LEAST_INT
            + " = -1; tariff 4; slot 0 1 0; slot 0 0 " + GREATEST_INT + " = 4; kind 0 = -1; blow 0 = NOSUCH; hire 0 0 0 0 = NOSUCH");
        new Bench("Promise 10: what it held: each kind, a seal, nothing").due("tariff 0; tariff 1; tariff 2; tariff 3; tariff 4; seal",
            "slot 5 1 0 = -1; slot 5 1 1 = 0; slot 5 1 2 = 1; slot 5 1 3 = 2; slot 5 1 4 = 3; slot 5 2 0 = 4; slot 5 0 0 = 5",
            "slot 5 0 0 = -1");
        new Bench("Promise 10: a refused slot leaves what it holds").due("tariff 1; seal; slot 3 1 0; slot 3 3 0 = ARGUMENT",
            "slot 3 -1 0 = ARGUMENT; slot 3 1 1 = NOSUCH; slot 3 2 1 = NOSUCH; kind 3 = 1; hire 3 0 0 0 = 0; end 0",
            "slot 3 2 0; slot 3 3 0 = ARGUMENT; slot 3 1 1 = NOSUCH; slot 3 2 1 = NOSUCH; kind 3 = 5; blow 3 = 1");
        new Bench("Promise 10: a slot may change while a hire runs").due("tariff 0; tariff 1; slot 0 1 0; hire 0 0 0 0; slot 0 1 1 = 0",
            "about 9 = 0; hand 0 = 1; about 9 = 1; slot 0 0 0; about 9 = 1; second = 0; end 0");
    }

    private static void slotFull() {
        Bench full = new Bench("Promise 10: all slots full, with the first and last of 12 tariffs and 40 seals").times(6, "tariff 1; "
            + "tariff 2").times(40, "seal");
        for (int slot = 0; slot < 12; slot++) {
            full.due("slot " + slot + " 1 " + slot + " = -1");
        }
        for (int slot = 0; slot < 12; slot++) {
            full.due("kind " + slot + " = " + (1 + slot % 2) + "; slot " + slot + " 2 " + (slot == 11 ? 39 : slot) + " = " + (1
                + slot % 2) + "; kind " + slot + " = 5");
        }
        full.due("slot 0 1 12 = NOSUCH; slot 0 2 40 = NOSUCH; kind 0 = 5; blow 11 = 1; since 39 = -1; since 38 = 0; slot 0 1 11 = 5; kind 0 = 2");
        new Bench("Promise 10: one tariff or seal in two slots").due("tariff 2; seal; slot 0 1 0; slot 1 1 0; kind 0 = 2; kind 1 = 2",
            "slot 2 2 0; slot 3 2 0; blow 2 = 1; blow 3 = 0");
    }

    private static void kind() {
        new Bench("Promise 11: slots are 0 to 11").due("kind 0 = -1; kind 11 = -1; kind -1 = INDEX; kind 12 = INDEX; kind " + LEAST_INT
            + " = INDEX; kind " + GREATEST_INT + " = INDEX");
        new Bench("Promise 11: a broken seal is a seal").due("seal; slot 0 2 0; breaks 0; kind 0 = 5");
    }
}
