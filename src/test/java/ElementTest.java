/** Promise 4: element. */
public final class ElementTest {
    public static void main(String[] args) {
        Check check = new Check();
        wrongNumbers(check);
        room(check);
        lineToldLast(check);
        weightsAreKept(check);
        check.end();
    }

    private static void wrongNumbers(Check check) {
        WeightOrder x = new WeightOrder();
        check.refuses("no line", () -> x.element(1, 2, 3, true));
        check.refuses("no line and out of range", () -> x.element(-1, 2, 3, true));
        x.line(1, 7, 0, 0);
        check.refuses("p -1", () -> x.element(-1, 0, 0, false));
        check.refuses("p 65536", () -> x.element(65536, 0, 0, false));
        check.refuses("s -1", () -> x.element(0, -1, 0, false));
        check.refuses("s 65536", () -> x.element(0, 65536, 0, false));
        check.refuses("t -1", () -> x.element(0, 0, -1, true));
        check.refuses("t 65536", () -> x.element(0, 0, 65536, true));
        check.answers(1, "a refused element is not kept", () -> x.element(65535, 65535, 65535, true));
        check.answers(2, "all 0", () -> x.element(0, 0, 0, false));
    }

    private static void room(Check check) {
        WeightOrder x = new WeightOrder();
        x.line(1, 7, 0, 0);
        for (int k = 1; k <= 8; k++) {
            int p = k;
            check.answers(k, "element " + k, () -> x.element(p, 0, 0, false));
        }
        check.hasNoRoom("element 9", () -> x.element(9, 0, 0, false));
        check.refuses("element 9 out of range", () -> x.element(9, 0, 65536, false));
        Check.fill(x, 0, 7);
        check.elements("[1.0.0.0][2.0.0.0][3.0.0.0][4.0.0.0][5.0.0.0][6.0.0.0][7.0.0.0][8.0.0.0]",
                "eight elements in order", x, 0, false);
        x.line(1, 7, 0, 0);
        check.answers(1, "room again in the line told anew", () -> x.element(9, 0, 0, false));
    }

    private static void lineToldLast(Check check) {
        WeightOrder x = new WeightOrder();
        x.line(1, 1, 0, 0);
        x.line(1, 2, 0, 0);
        x.line(1, 1, 0, 0);
        check.answers(1, "to line 1", () -> x.element(10, 0, 0, false));
        check.refuses("line out of range", () -> x.line(1, 2, -1, 0));
        x.order(3, 1);
        x.add(0, 1);
        x.add(0, 2);
        check.answers(2, "to line 1 all the same", () -> x.element(11, 0, 0, false));
        check.elements("[10.0.0.0][11.0.0.0]", "both are of line 1", x, 0, false);
    }

    private static void weightsAreKept(Check check) {
        WeightOrder x = new WeightOrder();
        x.line(1, 1, 0, 0);
        x.element(65535, 32768, 1, false);
        x.element(1, 65535, 32768, true);
        x.element(32768, 1, 65535, false);
        Check.fill(x, 3, 1);
        check.elements("[65535.32768.1.0][1.65535.32768.0][32768.1.65535.0]", "plain", x, 3, false);
        check.elements("[65535.32768.1.65535][0.0.0.1][32768.1.65535.65535]", "shifted", x, 3, true);
    }
}
