/** Promise 2: order gives a point its class, and classes say what may be passed over. */
public final class OrderTest {
    public static void main(String[] args) {
        Check check = new Check();
        wrongNumbers(check);
        passedOver(check);
        classesAsTheyAreWhenAsked(check);
        manyPoints(check);
        check.end();
    }

    private static void wrongNumbers(Check check) {
        WeightOrder x = lines();
        x.order(2, 5);
        x.order(3, 6);
        check.refuses("order(-1, 1)", () -> Check.order(x, -1, 1));
        check.refuses("order(1114112, 1)", () -> Check.order(x, Check.LAST_POINT + 1, 1));
        check.refuses("order(2, -1)", () -> Check.order(x, 2, -1));
        check.refuses("order(2, 255)", () -> Check.order(x, 2, 255));
        check.refuses("order(MIN, MAX)", () -> Check.order(x, Integer.MIN_VALUE, Integer.MAX_VALUE));
        Check.fill(x, 0, 1, 2, 3);
        check.elements("[13.0.0.0][20.0.0.0]", "a refused order changes nothing", x, 0, false);
        check.answers(0, "order(0, 0)", () -> Check.order(x, 0, 0));
        check.answers(0, "order(1114111, 254)", () -> Check.order(x, Check.LAST_POINT, 254));
    }

    private static WeightOrder lines() {
        WeightOrder x = new WeightOrder();
        Check.tell(x, 10, 1);
        Check.tell(x, 20, 2);
        Check.tell(x, 30, 3);
        Check.tell(x, 13, 1, 3);
        return x;
    }

    private static String of(int passed, int taken) {
        WeightOrder x = lines();
        x.order(2, passed);
        x.order(3, taken);
        Check.fill(x, 0, 1, 2, 3);
        return Check.elementsOf(x, 0, false);
    }

    private static void passedOver(Check check) {
        String apart = "[10.0.0.0][20.0.0.0][30.0.0.0]";
        String over = "[13.0.0.0][20.0.0.0]";
        check.due(over, "class above", of(1, 2));
        check.due(over, "highest classes", of(253, 254));
        check.due(apart, "same class", of(2, 2));
        check.due(apart, "lower class", of(3, 2));
        check.due(apart, "over class 0", of(0, 2));
        check.due(apart, "class 0 taken", of(2, 0));
    }

    private static void classesAsTheyAreWhenAsked(Check check) {
        WeightOrder x = lines();
        Check.fill(x, 0, 1, 2, 3);
        x.order(2, 1);
        x.order(3, 2);
        check.elements("[13.0.0.0][20.0.0.0]", "classes told behind the row", x, 0, false);
        x.order(2, 7);
        check.elements("[10.0.0.0][20.0.0.0][30.0.0.0]", "a class told again", x, 0, false);
        x.order(3, 8);
        check.elements("[13.0.0.0][20.0.0.0]", "the other told again", x, 0, false);
        x.order(2, 0);
        check.elements("[10.0.0.0][20.0.0.0][30.0.0.0]", "back to class 0", x, 0, false);
    }

    // Told upward, downward and mixed, so that a table that mislays one shows.
    private static void manyPoints(Check check) {
        WeightOrder x = new WeightOrder();
        Check.tell(x, 10, 1);
        Check.tell(x, 11, 1, Check.LAST_POINT);
        x.order(Check.LAST_POINT, 254);
        for (int k = 0; k < 80; k++) {
            x.order(2 + (k * 37 % 80) * 9001, 1 + k);
        }
        for (int k = 0; k < 80; k++) {
            Check.fill(x, 0, 1, 2 + k * 9001, Check.LAST_POINT);
            check.answers(3, "point " + k + " is passed over", () -> x.count(0, false));
        }
    }
}
