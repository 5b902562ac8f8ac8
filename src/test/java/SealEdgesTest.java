/** The edges of promises 12 to 16 and of SEALED in 'Terms' 3; each bench is about one sentence. */
public final class SealEdgesTest {
    private static final String DAY = "tariff 0; slot 0 1 0";
    private static final String LEAST = "-2147483648";
    private static final String GREATEST = "2147483647";

    public static void main(String[] args) {
        seal();
        breaks();
        blow();
        sets();
        since();
        sealed();
        Bench.close();
    }

    private static void seal() {
        Bench bench = new Bench("Promise 12: there are at most 40");
        for (int i = 0; i < 40; i++) {
            bench.due("seal = " + i);
        }
        bench.due("seal = -1; seal = -1; breaks 40 = INDEX; slot 0 2 40 = NOSUCH; breaks 39 = 1; seal = -1; since 39 = -1");
        new Bench("Promise 12: whole").due("seal; breaks 0 = 1; seal; breaks 1 = 1; breaks 0 = 0; seal; sets 2 = 0");
    }

    private static void breaks() {
        new Bench("Promise 13: no such seal").due("breaks 0 = INDEX; seal; breaks 1 = INDEX; breaks -1 = INDEX; breaks 39 = INDEX; "
            + "breaks " + LEAST + " = INDEX; breaks " + GREATEST + " = INDEX; breaks 0 = 1");
        new Bench("Promise 13: the last of 40").times(40, "seal").due("breaks 40 = INDEX; breaks 39 = 1; breaks 0 = 1; breaks 39 = 0; breaks 38 = 1");
        new Bench("Promise 13: whether it was whole").due("seal; seal; breaks 0 = 1; breaks 0 = 0; breaks 0 = 0; breaks 1 = 1; sets 0; breaks 0 = 1");
        new Bench("Promise 13: a seal broken twice stays broken").due("seal; breaks 0; breaks 0; since 0 = -1; sets 0 = 1");
    }

    private static void blow() {
        new Bench("Promise 14: slots are 0 to 11").due("seal; seal; slot 0 2 0; slot 11 2 1; blow -1 = INDEX; blow 12 = INDEX; blow "
            + LEAST + " = INDEX; blow " + GREATEST + " = INDEX; since 0 = 0; since 1 = 0; blow 11 = 1; since 1 = -1; since 0 = 0; "
            + "blow 0 = 1");
        new Bench("Promise 14: it holds nothing").due("seal; blow 0 = NOSUCH; slot 0 2 0; slot 0 0 0; blow 0 = NOSUCH; since 0 = 0");
        new Bench("Promise 14: it holds a tariff").due("seal; tariff 0; slot 0 1 0; blow 0 = ARGUMENT; since 0 = 0; slot 0 2 0; blow 0 = 1");
        for (int kind = 1; kind < 5; kind++) {
            new Bench("Promise 14: it holds a tariff of kind " + kind).due("tariff " + kind + "; slot 0 1 0; blow 0 = ARGUMENT");
        }
        new Bench("Promise 14: whether it was whole").due("seal; slot 0 2 0; blow 0 = 1; blow 0 = 0; breaks 0 = 0; sets 0 = 1",
            "breaks 0 = 1; blow 0 = 0");
    }

    private static void sets() {
        new Bench("Promise 15: no such seal").due("sets 0 = INDEX; seal; sets 1 = INDEX; sets -1 = INDEX; sets 39 = INDEX; sets " + LEAST
            + " = INDEX; sets " + GREATEST + " = INDEX; sets 0 = 0");
        new Bench("Promise 15: the last of 40").times(40, "seal").due("breaks 39; breaks 38; sets 40 = INDEX; sets 39 = 1; sets 39 = 0",
            "since 38 = -1; since 39 = 0");
        new Bench("Promise 15: whether it was broken").due("seal; sets 0 = 0; breaks 0; sets 0 = 1; sets 0 = 0");
    }

    private static void since() {
        new Bench("Promise 16: no such seal").due("since 0 = INDEX; seal; since 1 = INDEX; since -1 = INDEX; since 39 = INDEX; since "
            + LEAST + " = INDEX; since " + GREATEST + " = INDEX; since 0 = 0").times(39, "seal").due("since 39 = 0; since 40 = INDEX");
        new Bench("Promise 16: made ahead of all hires").due(DAY, "seal; since 0 = 0; hire 0 0 0 0; since 0 = 0; end 0; since 0 = 0",
            "hire 0 0 0 0; since 0 = 0");
        new Bench("Promise 16: made while a hire runs").due(DAY, "hire 0 0 0 0; seal; since 0 = 1; end 0; since 0 = 1; hire 0 0 0 0; since 0 = 1");
        new Bench("Promise 16: made between two hires").due(DAY, "hire 0 0 0 0; end 0; seal; since 0 = 1; hire 0 0 0 0; since 0 = 1",
            "end 0; since 0 = 1");
        new Bench("Promise 16: NONE as long as it is broken").due(DAY, "seal; breaks 0; since 0 = -1; hire 0 0 0 0; since 0 = -1; end 0",
            "since 0 = -1; sets 0; since 0 = 1");
        new Bench("Promise 16: set anew when it was broken").due(DAY, "seal; hire 0 0 0 0; end 0; breaks 0; sets 0; since 0 = 1",
            "hire 0 0 0 0; breaks 0; sets 0; since 0 = 2; end 0; since 0 = 2");
        new Bench("Promise 16: set anew when it was whole is no new time").due(DAY, "seal; hire 0 0 0 0; end 0; sets 0 = 0; since 0 = 0",
            "hire 0 0 0 0; sets 0 = 0; since 0 = 0");
        new Bench("Promise 16: a refused hire is none").due(DAY, "hire 0 100 0 0 = ARGUMENT; hire 1 0 0 0 = NOSUCH; seal; since 0 = 0",
            "hire 0 0 0 0; hire 0 0 0 0 = STATE; seal; since 1 = 1");
        new Bench("Promise 16: going back to an image begins no hire").due(DAY, "hire 0 0 0 0; keep; back; seal; since 0 = 1");
    }

    private static void sealed() {
        new Bench("Terms 3: with no seals a hire is sealed").due(DAY, "hire 0 0 0 0; about 12 = 1; end 0; about 12 = 1; receipt 0 3 = 1");
        new Bench("Terms 3: one of 40 is broken at its beginning").due(DAY).times(40, "seal").due("breaks 39; hire 0 0 0 0; about 12 = 0",
            "end 0; sets 39; breaks 0; hire 0 0 0 0; about 12 = 0; end 0; sets 0; hire 0 0 0 0; about 12 = 1; receipt 0 3 = 0",
            "receipt 1 3 = 0; end 0; receipt 2 3 = 1");
        new Bench("Terms 3: set anew in the hire, it was not whole at its beginning").due(DAY, "seal; breaks 0; hire 0 0 0 0; sets 0",
            "about 12 = 0; end 0; receipt 0 3 = 0");
        new Bench("Terms 3: broken in the hire and set anew before its end").due(DAY, "seal; hire 0 0 0 0; breaks 0; sets 0",
            "about 12 = 0; end 0; about 12 = 0; receipt 0 3 = 0");
        new Bench("Terms 3: broken by a blow in the hire").due(DAY, "seal; slot 1 2 0; hire 0 0 0 0; about 12 = 1; blow 1; about 12 = 0",
            "end 0; receipt 0 3 = 0");
        new Bench("Terms 3: broken behind its end").due(DAY, "seal; hire 0 0 0 0; end 0; breaks 0; about 12 = 1; receipt 0 3 = 1");
        new Bench("Terms 3: a seal made in the hire is none of those at its beginning").due(DAY, "seal; hire 0 0 0 0; seal; breaks 1",
            "about 12 = 1; breaks 1; about 12 = 1; breaks 0; about 12 = 0; end 0");
        new Bench("Terms 3: with no seals at its beginning none can break").due(DAY, "hire 0 0 0 0; seal; breaks 0; about 12 = 1; end 0",
            "receipt 0 3 = 1; hire 0 0 0 0; about 12 = 0");
        new Bench("Terms 3: the last seal made ahead of the hire counts").due(DAY, "seal; seal; seal; hire 0 0 0 0; breaks 2; about 12 = 0");
    }
}
