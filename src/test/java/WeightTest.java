/** Promise 8: weight, with IMPLICIT and SHIFTED. */
public final class WeightTest {
    public static void main(String[] args) {
        Check check = new Check();
        wrongNumbers(check);
        implicit(check);
        shifted(check);
        shiftedOverLines(check);
        check.end();
    }

    private static void wrongNumbers(Check check) {
        WeightOrder x = new WeightOrder();
        x.add(0, 5);
        check.refuses("row -1", () -> x.weight(-1, false, 0, 0));
        check.refuses("row 4", () -> x.weight(4, false, 0, 0));
        check.refuses("i -1", () -> x.weight(0, false, -1, 0));
        check.refuses("i MIN", () -> x.weight(0, false, Integer.MIN_VALUE, 0));
        check.refuses("i 2", () -> x.weight(0, false, 2, 0));
        check.refuses("i MAX", () -> x.weight(0, true, Integer.MAX_VALUE, 0));
        check.refuses("which -1", () -> x.weight(0, false, 0, -1));
        check.refuses("which 4", () -> x.weight(0, true, 0, 4));
        check.refuses("i 0 of an empty row", () -> x.weight(1, true, 0, 0));
        check.answers(32773, "i 1", () -> x.weight(0, false, 1, 0));
    }

    private static void implicit(Check check) {
        WeightOrder x = new WeightOrder();
        int[] points = {0, 1, 0x7FFF, 0x8000, 0x8001, 0xFFFF, 0x10000, 0x4E00, 0x10FFFF};
        for (int point : points) {
            Check.fill(x, 0, point);
            int p = 0xFBC0 + (point >> 15);
            int q = 0x8000 + (point & 0x7FFF);
            check.elements("[" + p + ".32.2.0][" + q + ".0.0.0]", "implicit " + point, x, 0, false);
            check.elements("[" + p + ".32.2.65535][" + q + ".0.0.65535]", "implicit shifted " + point, x, 0, true);
        }
    }

    private static void shifted(Check check) {
        check.due("[0.0.0.5]", "variable", shiftedOf("5 6 7 *"));
        check.due("[5.6.7.65535]", "not variable", shiftedOf("5 6 7"));
        check.due("[0.6.7.65535]", "p 0 at the beginning", shiftedOf("0 6 7"));
        check.due("[0.6.7.65535]", "variable with p 0 at the beginning", shiftedOf("0 6 7 *"));
        check.due("[0.0.7.65535]", "t alone", shiftedOf("0 0 7"));
        check.due("[0.6.0.65535]", "s alone", shiftedOf("0 6 0"));
        check.due("[5.0.0.65535]", "p alone", shiftedOf("5 0 0"));
        check.due("[0.0.0.0]", "all 0", shiftedOf("0 0 0"));
        check.due("[0.0.0.0]", "all 0, variable", shiftedOf("0 0 0 *"));
        check.due("[0.0.0.5][0.0.0.0]", "p 0 behind variable", shiftedOf("5 6 7 *, 0 6 7"));
        check.due("[0.0.0.5][0.0.0.0]", "variable p 0 behind variable", shiftedOf("5 6 7 *, 0 6 7 *"));
        check.due("[0.0.0.5][0.0.0.0][0.0.0.0][0.0.0.0]", "only p 0 between",
                shiftedOf("5 6 7 *, 0 6 7, 0 0 0, 0 0 8"));
        check.due("[0.0.0.5][9.1.1.65535][0.6.7.65535]", "another p between", shiftedOf("5 6 7 *, 9 1 1, 0 6 7"));
        check.due("[9.1.1.65535][0.6.7.65535]", "behind one that is not variable", shiftedOf("9 1 1, 0 6 7"));
        check.due("[0.0.0.5][0.0.0.65535][0.0.0.0]", "two variable", shiftedOf("5 6 7 *, 65535 0 0 *, 0 1 0"));
        check.due("[0.6.7.65535][0.0.0.5]", "p 0 before variable", shiftedOf("0 6 7, 5 6 7 *"));
        check.due("[0.6.7.65535][0.6.7.65535]", "variable with p 0 shifts none behind", shiftedOf("0 6 7 *, 0 6 7"));
    }

    private static String shiftedOf(String elements) {
        WeightOrder x = new WeightOrder();
        Check.tellAll(x, elements, 1);
        x.add(0, 1);
        return Check.elementsOf(x, 0, true);
    }

    private static void shiftedOverLines(Check check) {
        WeightOrder x = new WeightOrder();
        x.line(1, 1, 0, 0);
        x.element(5, 6, 7, true);
        x.line(1, 2, 0, 0);
        x.element(0, 8, 9, false);
        x.line(1, 3, 0, 0);
        Check.fill(x, 0, 2, 1, 3, 2, 4, 2);
        check.elements("[0.8.9.65535][0.0.0.5][0.0.0.0][64448.32.2.65535][32772.0.0.65535][0.8.9.65535]",
                "from line to line", x, 0, true);
        check.elements("[0.8.9.0][5.6.7.0][0.8.9.0][64448.32.2.0][32772.0.0.0][0.8.9.0]",
                "the fourth is 0 if not shifted", x, 0, false);
        Check.fill(x, 0, 1);
        Check.fill(x, 1, 2);
        x.count(0, true);
        check.elements("[0.8.9.65535]", "another row begins anew", x, 1, true);
    }
}
