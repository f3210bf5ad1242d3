/** Promises 1 to 4: a new object, order, line and element, a sentence each. */
public final class BoundsOfTellingTest {
    private static final int LAST = Check.LAST_POINT;

    public static void main(String[] args) {
        Check check = new Check();
        newObject(check);
        order(check);
        lineLengths(check);
        linePointsThatCount(check);
        linePointsThatDoNotCount(check);
        lineHasNoElements(check);
        lineInPlaceOfAnother(check);
        lineWithFiveHundred(check);
        howManyLines(check);
        moreThanFiveHundred(check);
        elementOfLineToldLast(check);
        elementWithoutLine(check);
        moreThanEight(check);
        howManyElements(check);
        check.end();
    }

    private static void newObject(Check check) {
        check.sentence("Promise 1: As said");
        for (int k = 0; k < 16; k++) {
            int r = k / 4;
            int u = k % 4;
            WeightOrder x = new WeightOrder();
            check.answers(0, "compare", () -> x.compare(r, u, 4, true));
            check.answers(0, "count", () -> x.count(r, u > 1));
            check.refuses("weight", () -> x.weight(r, u > 1, 0, u));
            check.answers(0, "clear", () -> x.clear(r));
            check.refuses("element", () -> x.element(1, 1, 1, false));
            check.answers(1, "add", () -> x.add(r, 0));
            check.answers(1, "line", () -> x.line(3, 0, 0, 0));
        }
        WeightOrder old = new WeightOrder();
        old.order(2, 2);
        Check.tell(old, 5, 1);
        old.add(0, 1);
        WeightOrder x = new WeightOrder();
        check.answers(0, "nothing of another object's row", () -> x.count(0, false));
        x.add(0, 1);
        check.answers(2, "nor of its lines", () -> x.count(0, false));
        check.answers(1, "which stay there", () -> old.count(0, false));
    }

    private static void order(Check check) {
        check.sentence("Promise 2: That POINT is of class c");
        int[] points = {0, 1, 0xFFFF, 0x10000, LAST - 1, LAST};
        for (int point : points) {
            WeightOrder x = new WeightOrder();
            Check.tell(x, 5, 50);
            Check.tell(x, 57, 50, 70);
            Check.tell(x, 7, 70);
            Check.tell(x, 1, point);
            x.order(70, 254);
            Check.fill(x, 0, 50, point, 70);
            int[] classes = {0, 1, 253, 254, 0, 253, 0};
            for (int c : classes) {
                check.answers(0, "class " + c, () -> Check.order(x, point, c));
                check.answers(c == 0 || c == 254 ? 3 : 2, "passed over with " + c, () -> x.count(0, false));
            }
            x.order(point == LAST ? LAST - 1 : point + 1, 253);
            check.answers(3, "not the next point", () -> x.count(0, false));
            x.order(point == 0 ? 1 : point - 1, 253);
            check.answers(3, "not the one before", () -> x.count(0, false));
            check.refuses("class 255", () -> Check.order(x, point, 255));
            check.refuses("class -1", () -> Check.order(x, point, -1));
        }
        WeightOrder x = new WeightOrder();
        check.refuses("point -1", () -> Check.order(x, -1, 0));
        check.refuses("point 1114112", () -> Check.order(x, LAST + 1, 0));
    }

    private static void lineLengths(Check check) {
        check.sentence("Promise 3: n 1 .. 3");
        WeightOrder x = new WeightOrder();
        for (int n : Check.outside(1, 3)) {
            check.refuses("n " + n, () -> x.line(n, 0, 0, 0));
        }
        for (int n = 1; n <= 3; n++) {
            int length = n;
            check.answers(n, "n " + n, () -> x.line(length, 0, 0, 0));
        }
    }

    private static void linePointsThatCount(Check check) {
        check.sentence("Promise 3: POINTS a, b, c, of which the first n count");
        WeightOrder x = new WeightOrder();
        check.answers(1, "5", () -> x.line(1, 5, 6, 7));
        check.answers(1, "5 again", () -> x.line(1, 5, 0, LAST));
        check.answers(2, "5 6", () -> x.line(2, 5, 6, 7));
        check.answers(2, "5 6 again", () -> x.line(2, 5, 6, LAST));
        check.answers(3, "5 7", () -> x.line(2, 5, 7, 7));
        check.answers(4, "5 6 7", () -> x.line(3, 5, 6, 7));
        check.answers(5, "5 6 8", () -> x.line(3, 5, 6, 8));
        check.answers(6, "5 7 6", () -> x.line(3, 5, 7, 6));
        check.answers(7, "6 5", () -> x.line(2, 6, 5, 0));
        check.answers(8, "0", () -> x.line(1, 0, 5, 6));
        check.answers(9, "0 0", () -> x.line(2, 0, 0, 6));
        check.answers(10, "0 0 0", () -> x.line(3, 0, 0, 0));
        check.answers(11, "0 5", () -> x.line(2, 0, 5, 6));
        check.answers(12, "5 0", () -> x.line(2, 5, 0, 6));
        check.answers(13, "5 0 0", () -> x.line(3, 5, 0, 0));
        check.answers(13, "5 once more", () -> x.line(1, 5, 5, 5));
    }

    private static void linePointsThatDoNotCount(Check check) {
        check.sentence("Promise 3: (the others 0 .. 1114111 all the same)");
        WeightOrder x = new WeightOrder();
        for (int point : Check.outside(0, LAST)) {
            check.refuses("n 1 with b " + point, () -> x.line(1, 0, point, 0));
            check.refuses("n 1 with c " + point, () -> x.line(1, 0, 0, point));
            check.refuses("n 2 with c " + point, () -> x.line(2, 0, 0, point));
        }
        check.answers(1, "n 1 with 0 and 1114111", () -> x.line(1, 0, 0, LAST));
        check.answers(1, "n 1 with 1114111 and 0", () -> x.line(1, 0, LAST, 0));
        check.answers(2, "n 2 with 0", () -> x.line(2, 0, 0, 0));
        check.answers(2, "n 2 with 1114111", () -> x.line(2, 0, 0, LAST));
    }

    private static void lineHasNoElements(Check check) {
        check.sentence("Promise 3: there is a LINE for these from now on, with no ELEMENTS");
        WeightOrder x = new WeightOrder();
        Check.fill(x, 0, 1, 1, 1);
        for (int n = 1; n <= 3; n++) {
            check.answers(n == 1 ? 6 : n == 2 ? 3 : 2, "before line " + n, () -> x.count(0, false));
            x.line(n, 1, 1, 1);
            check.answers(n == 1 ? 0 : n == 2 ? 1 : 0, "no elements", () -> x.count(0, false));
            check.answers(1, "the first", () -> x.element(5, 5, 5, false));
        }
        check.answers(1, "one element", () -> x.count(0, false));
    }

    private static void lineInPlaceOfAnother(Check check) {
        check.sentence("Promise 3: in place of another one");
        WeightOrder x = new WeightOrder();
        Check.tellAll(x, "1 1 1, 2 2 2, 3 3 3, 4 4 4, 5 5 5, 6 6 6, 7 7 7, 8 8 8 *", 1);
        Check.tell(x, 9, 2);
        Check.fill(x, 0, 1, 2);
        check.answers(9, "eight and one", () -> x.count(0, false));
        check.answers(2, "told again", () -> x.line(1, 1, 0, 0));
        check.elements("[9.0.0.0]", "the eight are gone", x, 0, false);
        check.answers(1, "a new one", () -> x.element(3, 3, 3, true));
        check.elements("[3.3.3.0][9.0.0.0]", "alone", x, 0, false);
        check.answers(2, "told once more, with none or one", () -> x.line(1, 1, 5, 5));
        check.answers(2, "and once more", () -> x.line(1, 1, 5, 5));
        check.elements("[9.0.0.0]", "none", x, 0, false);
    }

    private static WeightOrder lines(int many) {
        WeightOrder x = new WeightOrder();
        for (int k = 1; k <= many; k++) {
            x.line(1 + k % 3, k, k, k);
        }
        return x;
    }

    private static void lineWithFiveHundred(Check check) {
        check.sentence("Promise 3: (that can be with 500, too)");
        int[] told = {1, 2, 3, 250, 499, 500};
        for (int k : told) {
            WeightOrder x = lines(500);
            check.answers(500, "line " + k + " again", () -> x.line(1 + k % 3, k, k, k));
            check.answers(1, "its element", () -> x.element(k, 0, 0, false));
            for (int point = 0; point < 1 + k % 3; point++) {
                x.add(0, k);
            }
            check.answers(k, "found", () -> x.weight(0, false, 0, 0));
            check.answers(500, "line " + k + " once more", () -> x.line(1 + k % 3, k, k, k));
            check.answers(0, "has none", () -> x.count(0, false));
        }
    }

    private static void howManyLines(Check check) {
        check.sentence("Promise 3: Answers how many LINES there are");
        WeightOrder x = new WeightOrder();
        for (int k = 1; k <= 250; k++) {
            int point = LAST - k * 4001;
            check.answers(k, "a new one", () -> x.line(2, point, point, 0));
            check.answers(k, "the same one", () -> x.line(2, point, point, 9));
        }
        check.answers(250, "the first one", () -> x.line(2, LAST - 4001, LAST - 4001, 0));
    }

    private static void moreThanFiveHundred(Check check) {
        check.sentence("Promise 3: more than 500: IndexOutOfBoundsException");
        WeightOrder x = lines(499);
        check.answers(500, "line 500", () -> x.line(1, LAST, 0, 0));
        check.hasNoRoom("line 501 of one point", () -> x.line(1, 501, 0, 0));
        check.hasNoRoom("line 501 of two points", () -> x.line(2, LAST, LAST, 0));
        check.hasNoRoom("line 501 of three points", () -> x.line(3, LAST, LAST, LAST));
        check.hasNoRoom("line 501 of point 0", () -> x.line(1, 0, 0, 0));
        check.answers(500, "still 500", () -> x.line(1, LAST, 0, 0));
    }

    private static void elementOfLineToldLast(Check check) {
        check.sentence("Promise 4: The LINE told last (by a call that did not throw) gets one more ELEMENT");
        WeightOrder x = new WeightOrder();
        x.line(1, 1, 0, 0);
        x.line(1, 2, 0, 0);
        Check.fill(x, 0, 1);
        Check.fill(x, 1, 2);
        check.answers(1, "to 2", () -> x.element(20, 0, 0, false));
        check.refuses("1 with n 0", () -> x.line(0, 1, 0, 0));
        check.refuses("1 with b out of range", () -> x.line(1, 1, -1, 0));
        check.answers(2, "to 2 still", () -> x.element(21, 0, 0, false));
        check.elements("", "1 has none", x, 0, false);
        x.line(1, 1, 0, 0);
        check.answers(1, "to 1", () -> x.element(10, 0, 0, false));
        check.elements("[10.0.0.0]", "1 has it", x, 0, false);
        check.elements("[20.0.0.0][21.0.0.0]", "2 keeps its own", x, 1, false);
        x.order(5, 5);
        x.compare(0, 1, 4, true);
        check.answers(2, "other calls tell no line", () -> x.element(11, 0, 0, false));
    }

    private static void elementWithoutLine(Check check) {
        check.sentence("Promise 4: (there is none: IllegalArgumentException)");
        WeightOrder x = new WeightOrder();
        check.refuses("at first", () -> x.element(0, 0, 0, false));
        check.refuses("again", () -> x.element(65535, 65535, 65535, true));
        check.refuses("a line that is refused", () -> x.line(4, 0, 0, 0));
        check.refuses("behind it", () -> x.element(1, 1, 1, false));
        check.refuses("a line that is refused", () -> x.line(1, 0, 0, LAST + 1));
        check.refuses("behind it", () -> x.element(1, 1, 1, false));
        x.add(0, 1);
        x.order(1, 1);
        check.refuses("behind add and order", () -> x.element(1, 1, 1, false));
        x.line(1, 1, 0, 0);
        check.answers(1, "behind line", () -> x.element(1, 1, 1, false));
    }

    private static void moreThanEight(Check check) {
        check.sentence("Promise 4: more than 8: IndexOutOfBoundsException");
        WeightOrder x = new WeightOrder();
        Check.tellAll(x, "1 1 1, 2 2 2, 3 3 3, 4 4 4, 5 5 5, 6 6 6, 7 7 7", 1);
        check.answers(8, "the eighth", () -> x.element(8, 8, 8, false));
        check.hasNoRoom("the ninth", () -> x.element(9, 9, 9, false));
        check.hasNoRoom("the ninth, all 0", () -> x.element(0, 0, 0, true));
        x.line(1, 2, 0, 0);
        check.answers(1, "another line has room", () -> x.element(9, 9, 9, false));
        x.line(1, 1, 0, 0);
        check.answers(1, "and the first told again", () -> x.element(9, 9, 9, false));
    }

    private static void howManyElements(Check check) {
        check.sentence("Promise 4: Answers how many it has");
        WeightOrder x = new WeightOrder();
        for (int k = 1; k <= 48; k++) {
            int nth = (k - 1) % 8 + 1;
            if (nth == 1) {
                x.line(3, k / 8, k / 8, k / 16);
            }
            check.answers(nth, "element " + k, () -> x.element(0, 0, 0, nth % 2 == 0));
        }
    }
}
