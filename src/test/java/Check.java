/** Counts what is not as due, tells it, and ends a test with the exit code. */
final class Check {
    interface Call {
        long run();
    }

    static final int LAST_POINT = 1114111;

    private int checks = 0;
    private int wrong = 0;

    void answers(long want, String what, Call call) {
        due(Long.toString(want), what, outcomeOf(call));
    }

    void refuses(String what, Call call) {
        due("IllegalArgumentException", what, outcomeOf(call));
    }

    void hasNoRoom(String what, Call call) {
        due("IndexOutOfBoundsException", what, outcomeOf(call));
    }

    void due(String want, String what, String got) {
        checks++;
        if (!want.equals(got)) {
            wrong++;
            System.out.println(what + " answered " + got + ", due is " + want);
        }
    }

    /** All elements of a row, as [p.s.t.fourth] in decimal. */
    void elements(String want, String what, WeightOrder x, int r, boolean shifted) {
        due(want, what, elementsOf(x, r, shifted));
    }

    void end() {
        System.out.println(checks + " checks, " + wrong + " wrong");
        if (wrong != 0 || checks == 0) {
            System.exit(1);
        }
    }

    static String elementsOf(WeightOrder x, int r, boolean shifted) {
        StringBuilder text = new StringBuilder();
        int n = x.count(r, shifted);
        for (int i = 0; i < n; i++) {
            text.append('[');
            for (int which = 0; which < 4; which++) {
                text.append(which == 0 ? "" : ".").append(x.weight(r, shifted, i, which));
            }
            text.append(']');
        }
        return text.toString();
    }

    static void fill(WeightOrder x, int r, int... points) {
        x.clear(r);
        for (int point : points) {
            x.add(r, point);
        }
    }

    /** A LINE with one element [p.0.0] that is not variable. */
    static void tell(WeightOrder x, int p, int... points) {
        x.line(points.length, points[0], points.length > 1 ? points[1] : 0, points.length > 2 ? points[2] : 0);
        x.element(p, 0, 0, false);
    }

    /** The answer of a call, or the name of what it throws. */
    static String outcomeOf(Call call) {
        try {
            return Long.toString(call.run());
        } catch (RuntimeException e) {
            return e.getClass().getSimpleName();
        }
    }
}
