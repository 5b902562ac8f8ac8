/** Promises 12 to 16, and whether a hire is sealed. */
public final class SealTest {
    public static void main(String[] args) {
        seal();
        breaksAndSets();
        blow();
        since();
        sealed();
        Bench.close();
    }

    private static void seal() {
        Bench bench = new Bench("12 seal");
        for (int i = 0; i < 40; i++) {
            bench.due("breaks " + i + " = INDEX; seal = " + i + "; sets " + i + " = 0");
        }
        bench.due("seal = -1; breaks 39 = 1; breaks 40 = INDEX");
    }

    private static void breaksAndSets() {
        new Bench("13, 15 breaks and sets").due(
            "breaks 0 = INDEX; sets 0 = INDEX; breaks -1 = INDEX; sets -1 = INDEX; seal; seal; breaks 0 = 1; breaks 0 = 0",
            "sets 0 = 1; sets 0 = 0; breaks 0 = 1; sets 1 = 0; breaks 2 = INDEX; sets 2 = INDEX; breaks 1 = 1; sets 0 = 1");
    }

    private static void blow() {
        new Bench("14 blow").due(
            "blow -1 = INDEX; blow 12 = INDEX; blow 0 = NOSUCH; tariff 0; slot 0 1 0; blow 0 = ARGUMENT; seal; seal",
            "slot 0 2 1; blow 0 = 1; blow 0 = 0; since 1 = -1; since 0 = 0; sets 1 = 1; blow 0 = 1; slot 0 0 0; blow 0 = NOSUCH",
            "slot 11 2 0; breaks 0; blow 11 = 0");
        new Bench("14 a blow while a hire runs").due(
            "tariff 0; slot 0 1 0; seal; slot 1 2 0; hire 0 0 0 0; about 12 = 1; blow 1 = 1; about 12 = 0; end 0; receipt 0 3 = 0");
    }

    private static void since() {
        new Bench("16 since").due(
            "since 0 = INDEX; since -1 = INDEX; tariff 0; slot 0 1 0; seal; since 0 = 0; since 1 = INDEX",
            "hire 0 0 0 0; since 0 = 0; seal; since 1 = 1; breaks 0; since 0 = -1; sets 0; since 0 = 1; end 0; since 0 = 1; seal; since 2 = 1",
            "hire 0 0 0 0; end 0; hire 0 0 0 0; end 0; since 0 = 1; sets 0 = 0; since 0 = 1; breaks 0; since 0 = -1; sets 0; since 0 = 3",
            "since 1 = 1; seal; since 3 = 3");
    }

    private static void sealed() {
        new Bench("sealed: no seals").due("tariff 0; slot 0 1 0; hire 0 0 0 0; about 12 = 1; end 0; about 12 = 1; receipt 0 3 = 1");
        new Bench("sealed: broken at its beginning").due(
            "tariff 0; slot 0 1 0; seal; seal; breaks 0; hire 0 0 0 0; about 12 = 0; sets 0; about 12 = 0; end 0; receipt 0 3 = 0",
            "hire 0 0 0 0; about 12 = 1; end 0; breaks 1; about 12 = 1; receipt 1 3 = 1; receipt 0 3 = 0");
        new Bench("sealed: broken in it, and set anew").due(
            "tariff 0; slot 0 1 0; seal; hire 0 0 0 0; breaks 0; sets 0; about 12 = 0; end 0; receipt 0 3 = 0; hire 0 0 0 0; about 12 = 1");
        new Bench("sealed: a seal made in it does not count").due(
            "tariff 0; slot 0 1 0; seal; hire 0 0 0 0; seal = 1; breaks 1 = 1; about 12 = 1; end 0; receipt 0 3 = 1; hire 0 0 0 0; about 12 = 0");
    }
}
