import java.util.stream.IntStream;

/** Counts what is not as due, tells it, and ends a test with the exit code. */
final class Check {
    interface Call {
        long run();
    }

    static final int LAST_POINT = 1114111;

    private int checks = 0;
    private int wrong = 0;
    private String sentence = "";
    private int checksBefore = -1;

    /** What is checked from here on stands for this sentence of the document. */
    void sentence(String text) {
        endSentence();
        sentence = "\"" + text + "\": ";
        checksBefore = checks;
    }

    private void endSentence() {
        if (checks == checksBefore) {
            wrong++;
            System.out.println(sentence + "has no check");
        }
    }

    void answers(long want, String what, Call call) {
        due(Long.toString(want), what, outcomeOf(call));
    }

    void refuses(String what, Call call) {
        due("IllegalArgumentException", what, outcomeOf(call));
    }

    void hasNoRoom(String what, Call call) {
        due("IndexOutOfBoundsException", what, outcomeOf(call));
    }

    void due(String want, String what, String got) {
        checks++;
        if (!want.equals(got)) {
            wrong++;
            System.out.println(sentence + what + " answered " + got + ", due is " + want);
        }
    }

    /** All elements of a row, as [p.s.t.fourth] in decimal. */
    void elements(String want, String what, WeightOrder x, int r, boolean shifted) {
        due(want, what, elementsOf(x, r, shifted));
    }

    void end() {
        endSentence();
        System.out.println(checks + " checks, " + wrong + " wrong");
        if (wrong != 0 || checks == 0) {
            System.exit(1);
        }
    }

    static String elementsOf(WeightOrder x, int r, boolean shifted) {
        StringBuilder text = new StringBuilder();
        int n = x.count(r, shifted);
        for (int i = 0; i < n; i++) {
            text.append('[');
            for (int which = 0; which < 4; which++) {
                text.append(which == 0 ? "" : ".").append(x.weight(r, shifted, i, which));
            }
            text.append(']');
        }
        return text.toString();
    }

    static void fill(WeightOrder x, int r, int... points) {
        x.clear(r);
        for (int point : points) {
            x.add(r, point);
        }
    }

    /** order as a call with an answer, 0 if nothing is thrown. */
    static long order(WeightOrder x, int point, int c) {
        x.order(point, c);
        return 0;
    }

    /** A LINE with one element [p.0.0] that is not variable. */
    static void tell(WeightOrder x, int p, int... points) {
        x.line(points.length, points[0], points.length > 1 ? points[1] : 0, points.length > 2 ? points[2] : 0);
        x.element(p, 0, 0, false);
    }

    /** A LINE with elements such as "5 6 7 *, 0 6 7", the variable ones with a star; "" for none. */
    static void tellAll(WeightOrder x, String elements, int... points) {
        x.line(points.length, points[0], points.length > 1 ? points[1] : 0, points.length > 2 ? points[2] : 0);
        for (String element : elements.isEmpty() ? new String[0] : elements.split(", ")) {
            String[] parts = element.split(" ");
            x.element(Integer.parseInt(parts[0]), Integer.parseInt(parts[1]), Integer.parseInt(parts[2]),
                    parts.length > 3);
        }
    }

    /** Numbers just outside a range and far from it, also those that a narrower type would take for one inside. */
    static int[] outside(int first, int last) {
        return IntStream.of(first - 1, last + 1, last + 2, -1, -256, -65536, 256, 257, 65536, 65537, 1 << 21,
                (1 << 21) + 1, 1 << 24, Integer.MIN_VALUE, Integer.MIN_VALUE + 1, Integer.MAX_VALUE)
                .filter(number -> number < first || number > last).distinct().toArray();
    }

    /** The answer of a call, or the name of what it throws. */
    static String outcomeOf(Call call) {
        try {
            return Long.toString(call.run());
        } catch (RuntimeException e) {
            return e.getClass().getSimpleName();
        }
    }
}
