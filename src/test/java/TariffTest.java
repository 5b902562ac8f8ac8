/** Promises 7 to 11, and the tariffs' numbers. */
public final class TariffTest {
    private static final int[] FIRST = {300, 1, 20, 100000, 30, 5000, 1320, 360, 30, 10000000, 50000, 0, 1, 4000, 100};
    private static final int[] LEAST = {0, 1, 0, 10000, 1, 0, 0, 0, 0, 0, 10000, 0, 0, 0, 0};
    private static final int[] MOST = {
        10000, 50, 10000, 1000000, 600, 60000, 1439, 1439, 10000, 100000000, 1000000, 99, 99, 1000000, 10000
    };
    /** Which kinds have each number. */
    private static final String[] KINDS = {
        "01234", "01234", "01234", "01234", "01234", "01234", "1", "1", "1", "23", "23", "3", "3", "3", "4"
    };

    public static void main(String[] args) {
        tariff();
        numbers();
        setWrong();
        slot();
        Bench.close();
    }

    private static void tariff() {
        Bench bench = new Bench("7 tariff").due("tariff -1 = ARGUMENT; tariff 5 = ARGUMENT");
        for (int i = 0; i < 12; i++) {
            bench.due("tariff " + i % 5 + " = " + i);
        }
        bench.due("tariff 0 = -1; tariff 4 = -1; tariff 5 = ARGUMENT; tariff -1 = ARGUMENT; number 11 0 = 300; number 12 0 = INDEX");
        new Bench("7 tariff while a hire runs").due(
            "tariff 0; slot 0 1 0; hire 0 0 0 0; tariff 4 = 1; slot 1 1 1; hand 1 = 1; about 5 = 100");
    }

    private static void numbers() {
        for (int kind = 0; kind < 5; kind++) {
            Bench bench = new Bench("8, 9 numbers of kind " + kind).due("tariff 0; tariff " + kind);
            for (int what = 0; what < FIRST.length; what++) {
                if (KINDS[what].indexOf('0' + kind) < 0) {
                    bench.due("number 1 " + what + " = NOSUCH; set 1 " + what + " " + LEAST[what] + " = NOSUCH");
                    bench.due("set 1 " + what + " -1 = NOSUCH");
                } else {
                    oneNumber(bench, what);
                }
            }
            bench.due("number 1 -1 = NOSUCH; number 1 15 = NOSUCH; set 1 -1 0 = NOSUCH; set 1 15 0 = NOSUCH");
            bench.due("number 0 0 = 300; number 0 3 = 100000");
        }
    }

    private static void oneNumber(Bench bench, int what) {
        String set = "set 1 " + what + " ";
        String number = "number 1 " + what + " = ";
        bench.due(number + FIRST[what]);
        bench.due(set + (LEAST[what] - 1) + " = ARGUMENT", set + (MOST[what] + 1) + " = ARGUMENT", number + FIRST[what]);
        bench.due(set + LEAST[what] + " = " + FIRST[what], number + LEAST[what]);
        bench.due(set + MOST[what] + " = " + LEAST[what], number + MOST[what]);
    }

    private static void setWrong() {
        new Bench("8, 9 wrong").due(
            "set 0 0 1 = INDEX; number 0 0 = INDEX; set -1 0 1 = INDEX; number -1 0 = INDEX; number 12 0 = INDEX",
            "set 0 99 -1 = INDEX; number 0 99 = INDEX; tariff 0; set 1 0 1 = INDEX; set 0 6 -1 = NOSUCH; set 0 0 -1 = ARGUMENT");
        new Bench("8 a hire runs").due(
            "tariff 0; slot 0 1 0; hire 0 0 0 0; set 0 0 1 = STATE; set 9 0 1 = STATE; set 0 6 1 = STATE; set 0 0 -1 = STATE",
            "number 0 0 = 300; end 0; set 0 0 1 = 300; fare = 300");
    }

    private static void slot() {
        new Bench("10, 11 slot and kind").due(
            "tariff 4; tariff 3; tariff 2; tariff 1; tariff 0; seal; seal",
            "slot 0 1 0 = -1; slot 0 1 1 = 4; slot 0 1 2 = 3; slot 0 1 3 = 2; slot 0 1 4 = 1; slot 0 2 1 = 0; kind 0 = 5",
            "slot 0 0 0 = 5; kind 0 = -1; slot 0 0 99 = -1; slot 11 2 0 = -1; kind 11 = 5; slot 11 1 3 = 5; kind 11 = 1; kind 10 = -1",
            "slot 11 0 -5 = 1; slot 11 1 1; kind 11 = 3; slot 11 1 0; kind 11 = 4; slot 11 1 2; kind 11 = 2; slot 11 1 4; kind 11 = 0");
        new Bench("10, 11 wrong").due(
            "slot -1 0 0 = INDEX; slot 12 0 0 = INDEX; slot 12 3 0 = INDEX; slot -1 1 0 = INDEX; kind -1 = INDEX; kind 12 = INDEX",
            "slot 0 -1 0 = ARGUMENT; slot 0 3 0 = ARGUMENT; slot 0 3 99 = ARGUMENT; slot 0 1 0 = NOSUCH; slot 0 2 0 = NOSUCH",
            "tariff 0; slot 0 1 1 = NOSUCH; slot 0 1 -1 = NOSUCH; slot 0 2 0 = NOSUCH; seal; slot 0 2 1 = NOSUCH; slot 0 2 -1 = NOSUCH",
            "kind 0 = -1; slot 0 1 0; slot 0 2 1 = NOSUCH; slot 0 3 0 = ARGUMENT; kind 0 = 0");
    }
}
