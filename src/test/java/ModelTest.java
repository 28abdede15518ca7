import java.util.Random;

/** All promises: long runs of calls, drawn from fixed seeds, answer as the model does. */
public final class ModelTest {
    private static final int RUNS = 3000;
    private static final int CALLS = 360;
    private static final int MOST_CALLS = 512;
    private static final int[] ODD = {-1, 0, 1, 4, 9, 10, 12, 20, 60, 61, 100, 120, 400, 401, 3600,
        Integer.MIN_VALUE, Integer.MAX_VALUE};
    private static final long[] ODD_CENTS = {-1, 0, 1, 1000000000L, 1000000001L, 1000000000000L, 1000000000001L,
        -1000000000000L, -1000000000001L, Long.MIN_VALUE, Long.MAX_VALUE};
    private static final String[] WORDS = {"ship", "gear", "cost", "role", "least", "0", "1", "2", "9", "10", "40", "100",
        "101", "1000", "1001", "999999", "1000000", "000001", "x", "Ship", "-1", "\r", "ship\t"};

    private final Due due;
    private final Random random;
    private final CrewShares x = new CrewShares();
    private final Model m = new Model();
    private final String run;
    private int calls;
    private int persons;
    private int trips;
    private int entries;

    private ModelTest(Due due, int seed) {
        this.due = due;
        this.random = new Random(seed);
        this.run = "run of seed " + seed;
    }

    public static void main(String[] args) {
        Due due = new Due();
        for (int seed = 0; seed < RUNS; seed++) {
            ModelTest test = new ModelTest(due, seed);
            int kind = seed % 3;
            while (test.calls < CALLS) {
                if (kind == 0 || kind == 2 && test.random.nextBoolean()) {
                    test.callOfTrips();
                } else {
                    test.callOfBook();
                }
            }
            test.ask();
        }
        due.end();
    }

    private void same(String call, long got, long want) {
        calls++;
        due.is(run + ", call " + calls + ": " + call, got, want);
    }

    private void same(String call, boolean got, boolean want) {
        same(call, got ? 1 : 0, want ? 1 : 0);
    }

    /** Mostly a number below so many, at times an odd one. */
    private int some(int below) {
        return random.nextInt(12) == 0 ? ODD[random.nextInt(ODD.length)] : random.nextInt(Math.max(below, 1));
    }

    private long cents() {
        if (random.nextInt(12) == 0) {
            return ODD_CENTS[random.nextInt(ODD_CENTS.length)];
        }
        return (long) (Math.pow(10, 1 + random.nextInt(9)) * random.nextDouble());
    }

    private void callOfTrips() {
        switch (random.nextInt(16)) {
            case 0: if (random.nextInt(4) == 0) readText(); break;
            case 1: { int r = some(10); int p = m.person(r); persons += p < 0 ? 0 : 1; same("person", x.person(r), p); break; }
            case 2: case 3: { int p = some(persons); long c = cents(); same("advance", x.advance(p, c), m.advance(p, c)); break; }
            case 4: { int s = some(4); long c = 3 * cents(); int t = m.trip(s, c); trips += t < 0 ? 0 : 1; same("trip", x.trip(s, c), t); break; }
            case 5: case 6: case 7: { int t = some(trips); int k = some(10); long c = cents(); same("cost", x.cost(t, k, c), m.cost(t, k, c)); break; }
            case 8: case 9: case 10: { int t = some(trips); int p = some(persons); int d = some(40); same("days", x.days(t, p, d), m.days(t, p, d)); break; }
            case 11: if (random.nextInt(3) == 0) { int t = some(trips); same("settle", x.settle(t), m.settle(t)); } break;
            case 12: { int t = some(trips); int w = some(7); same("part", x.part(t, w), m.part(t, w)); break; }
            case 13: { int t = some(trips); int p = some(persons); int w = some(5); same("share", x.share(t, p, w), m.share(t, p, w)); break; }
            case 14: { int w = random.nextBoolean() ? some(5) : 100 + random.nextInt(14); same("carried", x.carried(w), m.carried(w)); break; }
            default: { int t = some(trips); same("sums", x.sums(t), m.sums(t)); }
        }
    }

    private void callOfBook() {
        switch (random.nextInt(12)) {
            case 0: case 1: { int d = some(3600) / (1 + random.nextInt(20)); same("open", x.open(d), m.open(d)); break; }
            case 2: case 3: case 4: evenRows(); break;
            case 5: { int a = some(20); long c = cents(); same("row", x.row(a, c), m.row(a, c)); break; }
            case 6: case 7: { int n = m.enter(); entries += n > 0 ? 1 : 0; same("enter", x.enter(), n); break; }
            case 8: same("drop", x.drop(), m.drop()); break;
            case 9: { int c = some(8 + calls / 10); same("closeMonth", x.closeMonth(c), m.closeMonth(c)); break; }
            case 10: { int e = some(entries + 2); int d = some(3600); int n = m.correct(e, d); entries += n > 0 ? 1 : 0; same("correct", x.correct(e, d), n); break; }
            default: { int e = some(entries + 2); int r = random.nextInt(10) - 2; int w = some(5); same("entry", x.entry(e, r, w), m.entry(e, r, w)); }
        }
    }

    private void evenRows() {
        int account = some(20);
        long amount = cents();
        same("row", x.row(account, amount), m.row(account, amount));
        same("row", x.row(19 - account, -amount), m.row(19 - account, -amount));
    }

    private void readText() {
        StringBuilder text = new StringBuilder();
        int sentences = random.nextInt(8);
        for (int i = 0; i < sentences; i++) {
            text.append(random.nextInt(20) == 0 ? WORDS[random.nextInt(WORDS.length)] : sentence());
            text.append(random.nextInt(4) == 0 ? "\n " : " ");
        }
        for (int i = 0; i < text.length(); i++) {
            same("unit", x.unit(text.charAt(i)), m.unit(text.charAt(i)));
        }
        same("read of " + text, x.read(), m.read());
    }

    private String sentence() {
        switch (random.nextInt(6)) {
            case 0: return "ship " + random.nextInt(70);
            case 1: return "gear " + random.nextInt(60);
            case 2: case 3: return "cost " + random.nextInt(10) + " " + random.nextInt(3);
            case 4: return "role " + random.nextInt(10) + " " + random.nextInt(random.nextBoolean() ? 4 : 1001);
            default: return "least " + random.nextInt(10) + " " + random.nextInt(random.nextBoolean() ? 100 : 1000000);
        }
    }

    /** Asks for what the state tells, here and there, with the calls that are left of the 512. */
    private void ask() {
        while (calls < MOST_CALLS - 2) {
            switch (random.nextInt(6)) {
                case 0: { int t = random.nextInt(21); int w = random.nextInt(7); same("part", x.part(t, w), m.part(t, w)); break; }
                case 1: { int t = random.nextInt(20); int p = random.nextInt(12); int w = random.nextInt(4); same("share", x.share(t, p, w), m.share(t, p, w)); break; }
                case 2: { int w = random.nextInt(3) == 0 ? random.nextInt(4) : 100 + random.nextInt(12); same("carried", x.carried(w), m.carried(w)); break; }
                case 3: { int t = random.nextInt(21); same("sums", x.sums(t), m.sums(t)); break; }
                case 4: { int a = random.nextInt(20); int c = random.nextInt(120); same("balance", x.balance(a, c), m.balance(a, c)); break; }
                default: { int e = some(entries + 2); int r = random.nextInt(10) - 2; int w = random.nextInt(4); same("entry", x.entry(e, r, w), m.entry(e, r, w)); }
            }
        }
        same("drop", x.drop(), m.drop());
        same("closeMonth", x.closeMonth(119), m.closeMonth(119));
    }
}
