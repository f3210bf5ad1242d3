/** The first section: every one of the 512 calls is answered as due. */
public final class BoundsOfUseTest {
    private static final int CALLS = 512;
    private static final int OTHERS = 505;

    public static void main(String[] args) {
        Check check = new Check();
        check.sentence("An object is used for at most 512 calls after it has been made");
        allCallsButSixAreOrders(check);
        fiveHundredLines(check);
        fullRows(check);
        asking(check);
        refused(check);
        check.end();
    }

    private static int other(int k) {
        return 2 + k * 2203;
    }

    // The 512th call tells of one class in each object, so that each of those told is looked at.
    private static void allCallsButSixAreOrders(Check check) {
        for (int looked = 0; looked < OTHERS; looked++) {
            WeightOrder x = new WeightOrder();
            x.line(1, 1, 0, 0);
            x.line(2, 1, Check.LAST_POINT, 0);
            for (int k = 0; k < OTHERS; k++) {
                x.order(other(k * 7 % OTHERS), 1 + k % 253);
            }
            x.order(Check.LAST_POINT, 254);
            x.add(0, 1);
            x.add(0, other(looked));
            x.add(0, Check.LAST_POINT);
            check.answers(2, "class told to point " + looked, () -> x.count(0, false));
        }
    }

    private static void fiveHundredLines(Check check) {
        WeightOrder x = new WeightOrder();
        for (int k = 1; k <= 500; k++) {
            int point = k;
            check.answers(k, "line " + k, () -> x.line(3, point, point + 1, point + 2));
        }
        for (int k = 1; k <= 8; k++) {
            int p = k;
            check.answers(k, "element " + k, () -> x.element(p, p, p, false));
        }
        check.answers(1, "add", () -> x.add(3, 500));
        check.answers(2, "add", () -> x.add(3, 501));
        check.answers(3, "add", () -> x.add(3, 502));
        check.answers(8, "the 512th call", () -> x.weight(3, false, 7, 2));
    }

    private static void fullRows(Check check) {
        WeightOrder x = new WeightOrder();
        Check.tellAll(x, "1 1 1, 2 2 2, 3 3 3, 4 4 4, 5 5 5, 6 6 6, 7 7 7, 8 8 8", 9);
        for (int k = 0; k < 500; k++) {
            int r = k / 200;
            check.answers(k % 200 + 1, "add " + k, () -> x.add(r, 9));
        }
        check.answers(0, "the 510th call", () -> x.compare(0, 1, 4, true));
        check.answers(-1, "the 511th call", () -> x.compare(2, 1, 1, false));
        check.answers(1600, "the 512th call", () -> x.count(1, true));
    }

    private static void asking(Check check) {
        WeightOrder x = new WeightOrder();
        x.add(0, 1);
        for (int call = 2; call <= CALLS; call++) {
            check.answers(2, "count as call " + call, () -> x.count(0, true));
        }
    }

    private static void refused(Check check) {
        WeightOrder x = new WeightOrder();
        for (int call = 1; call < CALLS; call++) {
            check.refuses("add as call " + call, () -> x.add(0, -1));
        }
        check.answers(1, "add as the 512th call", () -> x.add(0, 1));
    }
}
