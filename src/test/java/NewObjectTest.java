/** Promise 1: a new object has empty rows, no lines, and class 0 for every point. */
public final class NewObjectTest {
    public static void main(String[] args) {
        Check check = new Check();
        rowsAreEmpty(check);
        thereAreNoLines(check);
        classesAreZero(check);
        objectsAreApart(check);
        check.end();
    }

    private static void rowsAreEmpty(Check check) {
        WeightOrder x = new WeightOrder();
        for (int r = 0; r < 4; r++) {
            int row = r;
            check.answers(0, "count of new row " + r, () -> x.count(row, false));
            check.answers(0, "shifted count of new row " + r, () -> x.count(row, true));
            check.answers(0, "clear of new row " + r, () -> x.clear(row));
            check.refuses("weight of new row " + r, () -> x.weight(row, false, 0, 0));
            check.answers(0, "compare of new rows", () -> x.compare(row, 3 - row, 4, true));
        }
    }

    private static void thereAreNoLines(Check check) {
        WeightOrder x = new WeightOrder();
        check.refuses("element without a line", () -> x.element(1, 1, 1, false));
        Check.fill(x, 0, 0);
        check.elements("[64448.32.2.0][32768.0.0.0]", "point 0 without a line", x, 0, false);
        check.answers(1, "the first line", () -> x.line(1, 0, 0, 0));
    }

    private static void classesAreZero(Check check) {
        WeightOrder x = new WeightOrder();
        Check.tell(x, 10, 1);
        Check.tell(x, 20, 2);
        Check.tell(x, 30, 3);
        Check.tell(x, 13, 1, 3);
        Check.fill(x, 0, 1, 2, 3);
        check.elements("[10.0.0.0][20.0.0.0][30.0.0.0]", "nothing is passed over at first", x, 0, false);
    }

    private static void objectsAreApart(Check check) {
        WeightOrder x = new WeightOrder();
        Check.tell(x, 10, 1);
        x.add(0, 1);
        WeightOrder y = new WeightOrder();
        check.answers(0, "row of another object", () -> y.count(0, false));
        check.refuses("element of another object", () -> y.element(0, 0, 0, false));
    }
}
