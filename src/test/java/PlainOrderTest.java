/** Many runs of calls, always the same ones, on the program and on the plain one. */
public final class PlainOrderTest {
    private static final int RUNS = 3000;
    private static final int CALLS = 512;

    private final Check check = new Check();
    private long state = 1;
    private int points;
    private int lowest;
    private int weights;
    private WeightOrder program;
    private PlainOrder plain;

    public static void main(String[] args) {
        PlainOrderTest test = new PlainOrderTest();
        for (int run = 0; run < RUNS; run++) {
            test.run(run);
        }
        test.check.end();
    }

    private int below(int bound) {
        state = state * 6364136223846793005L + 1442695040888963407L;
        return (int) ((state >>> 33) % bound);
    }

    private int point() {
        return below(60) == 0 ? below(5) - 2 + (below(2) == 0 ? 0 : 1114111) : lowest + below(points);
    }

    private int row() {
        return below(100) == 0 ? below(2) * 5 - 1 : below(4);
    }

    private int weight() {
        return below(80) == 0 ? 65534 + below(3) : below(80) == 0 ? -1 : below(weights);
    }

    private boolean maybe() {
        return below(2) == 0;
    }

    private void run(int run) {
        program = new WeightOrder();
        plain = new PlainOrder();
        points = 2 + below(7);
        lowest = below(3) == 0 ? 1114111 - points : below(3) == 0 ? 0x7FFD : below(100);
        weights = 2 + below(4);
        for (int call = 0; call < CALLS; call++) {
            String where = "run " + run + " call " + call + " ";
            // Mostly telling at first and mostly asking later.
            if (below(CALLS) > call / 2 + 100) {
                tell(where);
            } else {
                ask(where);
            }
        }
    }

    private void tell(String where) {
        switch (below(8)) {
            case 0 -> {
                int point = point();
                int c = below(40) == 0 ? 253 + below(3) : below(60) == 0 ? -1 : below(5);
                same(where + "order", plain.order(point, c), () -> {
                    program.order(point, c);
                    return 0;
                });
            }
            case 1, 2 -> {
                int n = below(80) == 0 ? below(2) * 4 : 1 + below(3);
                int a = point();
                int b = point();
                int c = point();
                same(where + "line", plain.line(n, a, b, c), () -> program.line(n, a, b, c));
            }
            case 3, 4 -> {
                int p = weight();
                int s = weight();
                int t = weight();
                boolean variable = maybe();
                same(where + "element", plain.element(p, s, t, variable), () -> program.element(p, s, t, variable));
            }
            default -> {
                int r = row();
                int point = point();
                same(where + "add", plain.add(r, point), () -> program.add(r, point));
            }
        }
    }

    private void ask(String where) {
        int r = row();
        int u = row();
        boolean shifted = maybe();
        switch (below(20)) {
            case 0 -> same(where + "clear", plain.clear(r), () -> program.clear(r));
            case 1, 2, 3 -> same(where + "count", plain.count(r, shifted), () -> program.count(r, shifted));
            case 4, 5, 6, 7, 8, 9 -> {
                int strength = below(60) == 0 ? below(2) * 5 : 1 + below(4);
                same(where + "compare", plain.compare(r, u, strength, shifted),
                        () -> program.compare(r, u, strength, shifted));
            }
            default -> {
                int i = below(40) - 1;
                int which = below(60) == 0 ? below(2) * 5 - 1 : below(4);
                same(where + "weight", plain.weight(r, shifted, i, which), () -> program.weight(r, shifted, i, which));
            }
        }
    }

    private void same(String what, String want, Check.Call call) {
        check.due(want, what, Check.outcomeOf(call));
    }
}
