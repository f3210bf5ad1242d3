/** Promise 3: line, and how the longest line and those over what stands between are found. */
public final class LineTest {
    public static void main(String[] args) {
        Check check = new Check();
        wrongNumbers(check);
        howMany(check);
        farPoints(check);
        inPlaceOfAnother(check);
        room(check);
        longest(check);
        overWhatStandsBetween(check);
        check.end();
    }

    private static void wrongNumbers(Check check) {
        WeightOrder x = new WeightOrder();
        int[][] wrong = {
            {0, 1, 1, 1}, {4, 1, 1, 1}, {-1, 1, 1, 1}, {Integer.MAX_VALUE, 1, 1, 1}, {Integer.MIN_VALUE, 1, 1, 1},
            {1, -1, 0, 0}, {1, 1114112, 0, 0}, {1, 0, -1, 0}, {1, 0, 1114112, 0}, {1, 0, 0, -1}, {1, 0, 0, 1114112},
            {2, 0, 0, -1}, {2, 0, 0, 1114112}, {2, 0, -1, 0}, {3, 0, 0, 1114112}, {3, 0, 0, Integer.MIN_VALUE},
        };
        for (int[] w : wrong) {
            check.refuses("line(" + w[0] + ", " + w[1] + ", " + w[2] + ", " + w[3] + ")",
                    () -> x.line(w[0], w[1], w[2], w[3]));
        }
        check.refuses("a refused line is not told", () -> x.element(1, 1, 1, false));
        check.answers(1, "the last points", () -> x.line(3, 1114111, 1114111, 1114111));
        check.answers(2, "the first points", () -> x.line(1, 0, 1114111, 1114111));
    }

    private static void howMany(Check check) {
        WeightOrder x = new WeightOrder();
        check.answers(1, "line 0", () -> x.line(1, 0, 0, 0));
        check.answers(2, "line 0 0", () -> x.line(2, 0, 0, 0));
        check.answers(3, "line 0 0 0", () -> x.line(3, 0, 0, 0));
        check.answers(4, "line 1", () -> x.line(1, 1, 0, 0));
        check.answers(5, "line 1 0", () -> x.line(2, 1, 0, 0));
        check.answers(6, "line 0 1", () -> x.line(2, 0, 1, 0));
        check.answers(6, "line 0 again, other points do not count", () -> x.line(1, 0, 7, 9));
        check.answers(6, "line 0 1 again, the third does not count", () -> x.line(2, 0, 1, 9));
        check.answers(7, "line 0 1 9", () -> x.line(3, 0, 1, 9));
    }

    // Points far apart, so that rows that are not the same are never taken for one.
    private static void farPoints(Check check) {
        WeightOrder x = new WeightOrder();
        int[] points = {0, 1, 131072, 1048576, 1114111};
        for (int k = 0; k < 2 * 155; k++) {
            int nth = k % 155;
            int n = nth < 5 ? 1 : nth < 30 ? 2 : 3;
            int rest = nth < 5 ? nth : nth < 30 ? nth - 5 : nth - 30;
            check.answers(Math.min(k + 1, 155), "far line " + k,
                    () -> x.line(n, points[rest % 5], points[rest / 5 % 5], points[rest / 25 % 5]));
        }
    }

    private static void inPlaceOfAnother(Check check) {
        WeightOrder x = new WeightOrder();
        Check.tell(x, 10, 1);
        Check.tell(x, 20, 2);
        Check.fill(x, 0, 1, 2);
        check.answers(2, "line 1 again", () -> x.line(1, 1, 0, 0));
        check.elements("[20.0.0.0]", "a line told again has no elements", x, 0, false);
        check.answers(1, "its first element", () -> x.element(11, 0, 0, false));
        check.elements("[11.0.0.0][20.0.0.0]", "and gets new ones", x, 0, false);
    }

    private static void room(Check check) {
        WeightOrder x = new WeightOrder();
        for (int k = 0; k < 500; k++) {
            int a = k * 613 % 500;
            check.answers(k + 1, "line " + k, () -> x.line(2, a, 499 - a, 0));
        }
        x.element(5, 0, 0, false);
        check.hasNoRoom("line 501", () -> x.line(1, 3, 0, 0));
        check.refuses("line 501 out of range", () -> x.line(1, 3, 0, -1));
        check.answers(2, "the line told last is still that one", () -> x.element(6, 0, 0, false));
        check.answers(500, "one in place of another with 500", () -> x.line(2, 0, 499, 0));
        check.answers(1, "which is empty and told last", () -> x.element(9, 0, 0, false));
        Check.fill(x, 0, 0, 499);
        check.answers(9, "its element", () -> x.weight(0, false, 0, 0));
    }

    private static void longest(Check check) {
        WeightOrder x = new WeightOrder();
        Check.tell(x, 10, 1);
        Check.tell(x, 20, 2);
        Check.tell(x, 30, 3);
        Check.tell(x, 123, 1, 2, 3);
        Check.fill(x, 0, 1, 2, 3, 1, 2, 1);
        check.elements("[123.0.0.0][10.0.0.0][20.0.0.0][10.0.0.0]", "three without the two", x, 0, false);
        Check.tell(x, 12, 1, 2);
        check.elements("[123.0.0.0][12.0.0.0][10.0.0.0]", "three, two, one", x, 0, false);
        Check.tell(x, 45, 4, 5);
        Check.fill(x, 0, 4, 5, 4);
        check.elements("[45.0.0.0][64448.32.2.0][32772.0.0.0]", "no line for one alone: implicit", x, 0, false);
        x.line(2, 4, 5, 0);
        check.elements("[64448.32.2.0][32772.0.0.0]", "a line without elements takes its points", x, 0, false);
    }

    private static WeightOrder between() {
        WeightOrder x = new WeightOrder();
        x.order(2, 2);
        x.order(3, 3);
        x.order(4, 4);
        x.order(5, 5);
        for (int point = 1; point <= 5; point++) {
            Check.tell(x, point, point);
        }
        return x;
    }

    private static void overWhatStandsBetween(Check check) {
        WeightOrder x = between();
        Check.tell(x, 13, 1, 3);
        Check.tell(x, 135, 1, 3, 5);
        Check.fill(x, 0, 1, 2, 3, 4, 5, 1);
        check.elements("[135.0.0.0][2.0.0.0][4.0.0.0][1.0.0.0]", "two go, two are passed over", x, 0, false);
        Check.fill(x, 0, 1, 2, 3, 3, 5);
        check.elements("[135.0.0.0][2.0.0.0][3.0.0.0]", "the second 3 is passed over, 5 is above it", x, 0, false);
        Check.fill(x, 0, 1, 5, 3);
        check.elements("[1.0.0.0][5.0.0.0][3.0.0.0]", "3 is not above 5", x, 0, false);
        Check.fill(x, 0, 1, 4, 2, 3);
        check.elements("[1.0.0.0][4.0.0.0][2.0.0.0][3.0.0.0]", "all passed over count, not the last alone", x, 0, false);
        Check.tell(x, 6, 6);
        Check.fill(x, 0, 1, 2, 6, 3);
        check.elements("[1.0.0.0][2.0.0.0][6.0.0.0][3.0.0.0]", "class 0 ends it", x, 0, false);
        Check.tell(x, 24, 2, 4);
        Check.fill(x, 0, 1, 2, 3, 4);
        check.elements("[13.0.0.0][24.0.0.0]", "what is left stands together", x, 0, false);
        goingIsNoPassing(check);
        leftOnesKeepTheirClasses(check);
        noLineNoPassing(check);
        behindLongerBeginning(check);
    }

    private static void goingIsNoPassing(Check check) {
        WeightOrder x = between();
        Check.tell(x, 14, 1, 4);
        Check.tell(x, 143, 1, 4, 3);
        Check.fill(x, 0, 1, 2, 4, 3);
        check.elements("[143.0.0.0][2.0.0.0]", "3 behind 4, which went: only 2 was passed over", x, 0, false);
    }

    private static void leftOnesKeepTheirClasses(Check check) {
        WeightOrder x = between();
        Check.tell(x, 15, 1, 5);
        Check.tell(x, 34, 3, 4);
        Check.fill(x, 0, 1, 3, 2, 5, 4);
        check.elements("[15.0.0.0][34.0.0.0][2.0.0.0]", "what was passed over begins S in turn", x, 0, false);
    }

    private static void noLineNoPassing(Check check) {
        WeightOrder x = new WeightOrder();
        x.order(2, 2);
        x.order(3, 3);
        Check.tell(x, 13, 1, 3);
        Check.tell(x, 20, 2);
        Check.tell(x, 30, 3);
        Check.fill(x, 0, 1, 2, 3);
        check.elements("[64448.32.2.0][32769.0.0.0][20.0.0.0][30.0.0.0]", "no S, none passed over", x, 0, false);
        Check.tell(x, 12, 1, 2);
        Check.tell(x, 1, 1);
        Check.tell(x, 145, 1, 4, 5);
        x.order(4, 4);
        x.order(5, 5);
        Check.fill(x, 0, 1, 3, 4, 5);
        check.elements("[13.0.0.0][64448.32.2.0][32772.0.0.0][64448.32.2.0][32773.0.0.0]",
                "two do not go at once", x, 0, false);
    }

    private static void behindLongerBeginning(Check check) {
        WeightOrder x = between();
        Check.tell(x, 11, 1, 1);
        Check.tell(x, 115, 1, 1, 5);
        Check.tell(x, 15, 1, 5);
        Check.fill(x, 0, 1, 1, 4, 5, 5);
        check.elements("[115.0.0.0][4.0.0.0][5.0.0.0]", "S of two points and one behind", x, 0, false);
        Check.fill(x, 0, 1, 4, 5, 5);
        check.elements("[15.0.0.0][4.0.0.0][5.0.0.0]", "S of one point and one behind", x, 0, false);
    }
}
