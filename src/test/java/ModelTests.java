/** Long runs of calls, the same ones always, answered by the program and by the slow model. */
public final class ModelTests {
    private static final int RUNS = 1500;
    /** With what is compared between them they stay below 512, all that an object is good for. */
    private static final int CALLS_OF_A_RUN = 150;
    private static final int CALLS_BETWEEN = 8;
    private static final int[] ODD = {Integer.MIN_VALUE, -100, -2, -1, 6, 7, 8, 64, 512, 513, Integer.MAX_VALUE};
    private static final long[] ODD_LONGS = {4294967297L, 4294967296L, -4294967295L, 128, 256, 257, 65537, 32768,
            Long.MIN_VALUE, Long.MAX_VALUE, -1, 101, 2147483648L, -2147483649L};

    private final Check check;
    private final LadderCalls x = new LadderCalls();
    private final SlowLadders y = new SlowLadders();
    private final int run;
    private long seed;
    /** Some runs are of few PLACES, some full; most day's calls need a town that is not TORN. */
    private final int shape;

    private ModelTests(Check check, int run) {
        this.check = check;
        this.run = run;
        seed = run * 7919L + 17;
        shape = run % 5;
    }

    private int below(int n) {
        seed = seed * 6364136223846793005L + 1442695040888963407L;
        return (int) ((seed >>> 33) % n);
    }

    private boolean oneIn(int n) {
        return below(n) == 0;
    }

    private int odd(int usual) {
        return oneIn(25) ? ODD[below(ODD.length)] : usual;
    }

    private int place() {
        return odd(below(Math.max(1, y.about(0))));
    }

    private int length() {
        return oneIn(12) ? (oneIn(2) ? 1 : 100) : odd(1 + below(oneIn(3) ? 100 : 6));
    }

    private int standNumber(int n) {
        int number = 0;
        for (int i = 0; i < n; i++) {
            number = number * 8 + below(Math.max(1, y.about(0)));
        }
        return oneIn(30) ? below(600) - 20 : odd(number);
    }

    private int ladders() {
        return Math.max(1, y.about(2));
    }

    private void due(String what, long got, long want) {
        check.due("run " + run + ": " + what, got, want);
    }

    private void setUp() {
        int places = shape == 0 ? 0 : 2 + below(5);
        for (int i = 0; i < places; i++) {
            due("place", x.place(), y.place());
            if (i > 0) {
                int to = below(i);
                int length = shape == 1 ? 1 : 1 + below(9);
                due("road", x.road(i, to, length), y.road(i, to, length));
            }
        }
        if (shape == 4) {
            for (int i = 0; i < 15; i++) {
                road();
            }
        }
        if (shape != 0) {
            int kind = below(4);
            due("rule", x.rule(kind), y.rule(kind));
            begin();
        }
    }

    private void road() {
        int a = place();
        int b = place();
        int length = length();
        due("road " + a + " " + b + " " + length, x.road(a, b, length), y.road(a, b, length));
    }

    private void begin() {
        int n = odd(1 + below(3));
        int s = standNumber(n < 1 || n > 3 ? 1 : n);
        due("begin " + n + " " + s, x.begin(n, s), y.begin(n, s));
    }

    private void anyPlaces() {
        int a = place();
        int b = place();
        switch (below(4)) {
            case 0: due("place", x.place(), y.place()); break;
            case 1: road(); break;
            case 2: due("apart " + a + " " + b, x.apart(a, b), y.apart(a, b)); break;
            default: due("way " + a + " " + b, x.way(a, b), y.way(a, b)); break;
        }
    }

    private void anyDay() {
        int p = place();
        int i = odd(below(13));
        switch (below(16)) {
            case 0: if (oneIn(6)) due("end", x.end(), y.end()); break;
            case 1: if (oneIn(4)) begin(); break;
            case 2: case 3: int k = odd(below(4)); due("rule " + k, x.rule(k), y.rule(k)); break;
            case 4: due("back", x.back(), y.back()); break;
            case 5: due("cruel", x.cruel(), y.cruel()); break;
            case 6: case 7: due("ask " + p, x.ask(p), y.ask(p)); break;
            case 8: due("stand", x.stand(), y.stand()); break;
            case 9: int w = odd(below(4)); due("told " + i + " " + w, x.told(i, w), y.told(i, w)); break;
            case 10: int l = odd(below(4) - 1); due("cost " + l, x.cost(l), y.cost(l)); break;
            default: due("call " + p, x.call(p), y.call(p)); break;
        }
    }

    private void anyLeast() {
        int n = odd(below(Math.max(1, y.about(3) + 1)));
        int s = standNumber(ladders());
        switch (below(6)) {
            case 0: int o = standNumber(ladders()); due("moves " + s + " " + o, x.moves(s, o), y.moves(s, o)); break;
            case 1: due("work " + n + " " + s, x.work(n, s), y.work(n, s)); break;
            case 2: due("least " + n, x.least(n), y.least(n)); break;
            case 3: int i = odd(below(12)); due("plan " + n + " " + i, x.plan(n, i), y.plan(n, i)); break;
            case 4: due("ratio", x.ratio(), y.ratio()); break;
            default: worst(); break;
        }
    }

    private void worst() {
        int n = oneIn(6) ? 3 : odd(1 + below(2));
        int what = odd(below(3));
        due("worst " + n + " " + what, x.worst(n, what), y.worst(n, what));
    }

    private long value() {
        if (oneIn(9)) return ODD_LONGS[below(ODD_LONGS.length)];
        return oneIn(9) ? 1 + below(100) : below(7);
    }

    private void anyBooks() {
        int b = odd(below(3));
        int sort = odd(b < 0 || b > 2 || oneIn(9) ? below(4) : (b + run) % 4);
        int r = odd(below(oneIn(3) ? 4 : 2));
        int i = odd(below(oneIn(2) ? 8 : 3));
        long v = value();
        switch (below(10)) {
            case 0:
                int rows = oneIn(12) ? below(9) - 3 : odd(below(5));
                if (oneIn(3)) due("book " + b + " " + sort + " " + rows, x.book(b, sort, rows), y.book(b, sort, rows));
                break;
            case 1: case 2:
                int n = oneIn(12) ? below(13) - 3 : odd(2 + below(7));
                if (oneIn(2)) due("row " + b + " " + r + " " + n, x.row(b, r, n), y.row(b, r, n));
                break;
            case 3: due("item " + b + " " + sort + " " + r + " " + i, x.item(b, sort, r, i), y.item(b, sort, r, i)); break;
            case 4: due("roads " + b, x.roads(b), y.roads(b)); break;
            case 5: due("calls " + b + " " + r, x.calls(b, r), y.calls(b, r)); break;
            default: due("put " + b + " " + sort + " " + r + " " + i + " " + v, x.put(b, sort, r, i, v), y.put(b, sort, r, i, v)); break;
        }
    }

    private void compareAll(int step) {
        for (int what = -1; what <= 6; what++) {
            due("step " + step + ": about " + what, x.about(what), y.about(what));
        }
        due("step " + step + ": trace", x.trace(), y.trace());
        due("step " + step + ": status", x.status(), y.status());
        due("step " + step + ": stand", x.stand(), y.stand());
        due("step " + step + ": cost", x.cost(-1), y.cost(-1));
    }

    private void go() {
        setUp();
        for (int step = 0; step < CALLS_OF_A_RUN && check.isRight(); step++) {
            switch (below(8)) {
                case 0: anyPlaces(); break;
                case 1: case 2: case 3: case 4: anyDay(); break;
                case 5: case 6: if (shape == 0) anyBooks(); else anyLeast(); break;
                default: anyBooks(); break;
            }
            if (step % CALLS_BETWEEN == 0) {
                compareAll(step);
            }
        }
        compareAll(CALLS_OF_A_RUN);
    }

    public static void main(String[] args) {
        Check check = new Check();
        for (int run = 0; run < RUNS && check.isRight(); run++) {
            new ModelTests(check, run).go();
        }
        check.close();
    }
}
