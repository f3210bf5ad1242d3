/** Promise 5: add. */
public final class AddTest {
    public static void main(String[] args) {
        Check check = new Check();
        wrongNumbers(check);
        room(check);
        rowsAreApart(check);
        check.end();
    }

    private static void wrongNumbers(Check check) {
        WeightOrder x = new WeightOrder();
        check.refuses("row -1", () -> x.add(-1, 1));
        check.refuses("row 4", () -> x.add(4, 1));
        check.refuses("row MIN", () -> x.add(Integer.MIN_VALUE, 1));
        check.refuses("point -1", () -> x.add(0, -1));
        check.refuses("point 1114112", () -> x.add(0, 1114112));
        check.answers(1, "point 0", () -> x.add(0, 0));
        check.answers(2, "point 1114111", () -> x.add(0, 1114111));
        check.elements("[64448.32.2.0][32768.0.0.0][64481.32.2.0][65535.0.0.0]", "in order", x, 0, false);
    }

    private static void room(Check check) {
        WeightOrder x = new WeightOrder();
        for (int k = 1; k <= 200; k++) {
            int point = k;
            check.answers(k, "add " + k, () -> x.add(2, point));
        }
        check.hasNoRoom("add 201", () -> x.add(2, 1));
        check.refuses("add 201 out of range", () -> x.add(2, -1));
        check.answers(400, "all elements of 200 points", () -> x.count(2, false));
        check.answers(32768 + 200, "the last of them", () -> x.weight(2, false, 399, 0));
        check.answers(1, "another row has room", () -> x.add(3, 1));
        check.answers(200, "clear", () -> x.clear(2));
        check.answers(1, "room again", () -> x.add(2, 1));
    }

    private static void rowsAreApart(Check check) {
        WeightOrder x = new WeightOrder();
        for (int r = 0; r < 4; r++) {
            Check.tell(x, 10 + r, r);
            x.add(r, r);
        }
        for (int r = 0; r < 4; r++) {
            check.elements("[" + (10 + r) + ".0.0.0]", "row " + r, x, r, false);
        }
    }
}
