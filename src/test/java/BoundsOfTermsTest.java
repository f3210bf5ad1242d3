/** 'Terms': the ranges of POINTS, classes, ROWS, LINES and ELEMENTS. */
public final class BoundsOfTermsTest {
    private static final int LAST = Check.LAST_POINT;

    public static void main(String[] args) {
        Check check = new Check();
        points(check);
        firstAndLastPoint(check);
        classes(check);
        classAtFirst(check);
        whenOneAsks(check);
        rows(check);
        pointsOfRows(check);
        pointsOfLines(check);
        elementsOfLines(check);
        linesAtFirst(check);
        weights(check);
        variable(check);
        check.end();
    }

    private static void points(Check check) {
        check.sentence("POINTS are 0 .. 1114111");
        WeightOrder x = new WeightOrder();
        for (int point : Check.outside(0, LAST)) {
            check.refuses("order of " + point, () -> Check.order(x, point, 1));
            check.refuses("add of " + point, () -> x.add(0, point));
            for (int n = 1; n <= 3; n++) {
                int length = n;
                check.refuses("line " + n + " with a " + point, () -> x.line(length, point, 0, 0));
                check.refuses("line " + n + " with b " + point, () -> x.line(length, 0, point, 0));
                check.refuses("line " + n + " with c " + point, () -> x.line(length, 0, 0, point));
            }
        }
    }

    private static void firstAndLastPoint(Check check) {
        check.sentence("POINTS are 0 .. 1114111");
        WeightOrder x = new WeightOrder();
        check.answers(1, "line of the last", () -> x.line(3, LAST, LAST, LAST));
        x.element(7, 0, 0, false);
        check.answers(2, "line of the first", () -> x.line(3, 0, 0, 0));
        x.element(8, 0, 0, false);
        check.answers(3, "line of both", () -> x.line(2, 0, LAST, 0));
        x.element(9, 0, 0, false);
        Check.fill(x, 0, LAST, LAST, LAST, 0, LAST, 0, 0, 0);
        check.elements("[7.0.0.0][9.0.0.0][8.0.0.0]", "found in a row", x, 0, false);
        Check.tell(x, 10, 5);
        Check.tell(x, 11, 5, LAST);
        check.answers(6, "line of 1048575", () -> x.line(1, 1048575, 0, 0));
        check.answers(7, "line of 0 1048575", () -> x.line(2, 0, 1048575, 0));
        check.answers(8, "line of 0 1048576", () -> x.line(2, 0, 1048576, 0));
        check.answers(9, "line of 1 1048576", () -> x.line(2, 1, 1048576, 0));
        check.answers(0, "class of the first", () -> Check.order(x, 0, 1));
        check.answers(0, "class of the last", () -> Check.order(x, LAST, 2));
        Check.fill(x, 0, 5, 0, LAST);
        check.elements("[11.0.0.0][64448.32.2.0][32768.0.0.0]", "the first is passed over", x, 0, false);
    }

    /** Lines for 1, 2, 3 and for 1 with 3 behind, and a row 1 2 3. */
    private static WeightOrder oneTwoThree() {
        WeightOrder x = new WeightOrder();
        Check.tell(x, 1, 1);
        Check.tell(x, 2, 2);
        Check.tell(x, 3, 3);
        Check.tell(x, 13, 1, 3);
        Check.fill(x, 0, 1, 2, 3);
        return x;
    }

    private static void classes(Check check) {
        check.sentence("each of a class 0 .. 254");
        for (int c : Check.outside(0, 254)) {
            WeightOrder x = oneTwoThree();
            check.refuses("class " + c, () -> Check.order(x, 2, c));
        }
        for (int k = 0; k <= 254; k++) {
            int c = k;
            WeightOrder x = oneTwoThree();
            check.answers(0, "class " + c, () -> Check.order(x, 2, c));
            check.answers(3, "class 0 behind class " + c, () -> x.count(0, false));
            x.order(3, 254);
            check.answers(c == 0 || c == 254 ? 3 : 2, "class 254 behind class " + c, () -> x.count(0, false));
            x.order(2, 1);
            x.order(3, c);
            check.answers(c > 1 ? 2 : 3, "class " + c + " behind class 1", () -> x.count(0, false));
        }
    }

    private static void classAtFirst(Check check) {
        check.sentence("0 at first");
        int[] points = {0, 2, 0xFFFF, 0x10000, LAST};
        for (int point : points) {
            WeightOrder x = new WeightOrder();
            Check.tell(x, 8, 8);
            Check.tell(x, 9, 9);
            Check.tell(x, 3, point);
            Check.tell(x, 98, 9, 8);
            x.order(8, 254);
            Check.fill(x, 0, 9, point, 8);
            check.elements("[9.0.0.0][3.0.0.0][8.0.0.0]", point + " is not passed over", x, 0, false);
            WeightOrder y = new WeightOrder();
            Check.tell(y, 8, 8);
            Check.tell(y, 9, 9);
            Check.tell(y, 3, point);
            Check.tell(y, 93, 9, point);
            y.order(8, 1);
            Check.fill(y, 0, 9, 8, point);
            check.elements("[9.0.0.0][8.0.0.0][3.0.0.0]", point + " does not go over another", y, 0, false);
        }
    }

    private static void whenOneAsks(Check check) {
        check.sentence("ELEMENTS are found by the classes and LINES as they are when one asks");
        WeightOrder x = new WeightOrder();
        Check.fill(x, 0, 1, 2, 3);
        check.answers(6, "no line", () -> x.count(0, false));
        Check.tell(x, 1, 1);
        check.answers(5, "a line told behind the row", () -> x.count(0, false));
        Check.tell(x, 13, 1, 3);
        x.order(3, 2);
        check.answers(5, "2 is of class 0", () -> x.count(0, false));
        x.order(2, 1);
        check.answers(3, "2 is of class 1", () -> x.count(0, false));
        check.answers(13, "and is passed over", () -> x.weight(0, false, 0, 0));
        x.order(2, 2);
        check.answers(1, "2 is of class 2", () -> x.weight(0, false, 0, 0));
        x.order(2, 0);
        check.answers(1, "2 is of class 0 again", () -> x.weight(0, false, 0, 0));
        x.line(1, 1, 0, 0);
        check.answers(4, "the line told again has none", () -> x.count(0, false));
        x.element(5, 0, 0, false);
        check.answers(5, "and then one", () -> x.count(0, false));
    }

    private static void rows(Check check) {
        check.sentence("ROWS 0 .. 3");
        WeightOrder x = new WeightOrder();
        for (int r = 0; r <= 3; r++) {
            int row = r;
            check.answers(1, "add to row " + r, () -> x.add(row, row));
        }
        for (int r : Check.outside(0, 3)) {
            check.refuses("add to row " + r, () -> x.add(r, 0));
            check.refuses("clear of row " + r, () -> x.clear(r));
            check.refuses("count of row " + r, () -> x.count(r, false));
            check.refuses("weight of row " + r, () -> x.weight(r, false, 0, 0));
            check.refuses("compare of row " + r, () -> x.compare(r, 0, 1, false));
            check.refuses("compare with row " + r, () -> x.compare(0, r, 1, false));
        }
        for (int r = 0; r <= 3; r++) {
            int row = r;
            check.answers(2, "count of row " + r, () -> x.count(row, false));
            check.answers(32768 + r, "weight of row " + r, () -> x.weight(row, false, 1, 0));
            check.answers(Integer.compare(r, 2), "compare of row " + r, () -> x.compare(row, 2, 1, false));
            check.answers(Integer.compare(2, r), "compare with row " + r, () -> x.compare(2, row, 1, false));
        }
        for (int r = 0; r <= 3; r++) {
            int row = r;
            check.answers(1, "clear of row " + r, () -> x.clear(row));
        }
    }

    private static void pointsOfRows(Check check) {
        check.sentence("ROWS 0 .. 3 have at most 200 POINTS");
        for (int r = 0; r <= 3; r++) {
            int row = r;
            WeightOrder x = new WeightOrder();
            for (int k = 1; k <= 200; k++) {
                int point = k;
                check.answers(k, "add " + k + " to row " + r, () -> x.add(row, point));
            }
            check.hasNoRoom("add 201 to row " + r, () -> x.add(row, 201));
            check.hasNoRoom("add 201 to row " + r + " again", () -> x.add(row, 0));
            check.answers(400, "count of row " + r, () -> x.count(row, false));
            check.answers(1, "add to the next row", () -> x.add((row + 1) % 4, 1));
            check.answers(200, "clear of row " + r, () -> x.clear(row));
        }
    }

    private static void pointsOfLines(Check check) {
        check.sentence("LINES: a row of 1 to 3 POINTS");
        WeightOrder x = new WeightOrder();
        for (int n : Check.outside(1, 3)) {
            check.refuses("line of " + n, () -> x.line(n, 1, 1, 1));
        }
        Check.fill(x, 0, 7, 8, 9);
        check.answers(1, "line of 1", () -> x.line(1, 7, 8, 9));
        check.answers(4, "takes one point", () -> x.count(0, false));
        check.answers(2, "line of 2", () -> x.line(2, 7, 8, 9));
        check.answers(2, "takes two points", () -> x.count(0, false));
        check.answers(3, "line of 3", () -> x.line(3, 7, 8, 9));
        check.answers(0, "takes three points", () -> x.count(0, false));
    }

    private static void elementsOfLines(Check check) {
        check.sentence("with 0 to 8 ELEMENTS");
        WeightOrder x = new WeightOrder();
        x.add(0, 7);
        x.add(0, 7);
        for (int n = 1; n <= 3; n++) {
            x.line(n, 7, 7, 7);
            int times = n == 1 ? 2 : 1;
            if (n == 3) {
                x.add(0, 7);
            }
            check.answers(0, "none", () -> x.count(0, false));
            for (int k = 1; k <= 8; k++) {
                int most = k;
                check.answers(k, "element " + k, () -> x.element(most, 0, 0, false));
                check.answers(k * times, "count with " + k, () -> x.count(0, false));
                check.answers(k, "the last one", () -> x.weight(0, false, most * times - 1, 0));
            }
            check.hasNoRoom("element 9", () -> x.element(9, 0, 0, false));
            check.answers(8 * times, "count with 8", () -> x.count(0, false));
        }
    }

    private static void linesAtFirst(Check check) {
        check.sentence("LINES: .. none at first");
        WeightOrder x = new WeightOrder();
        check.refuses("element", () -> x.element(0, 0, 0, false));
        Check.fill(x, 0, 0, 0, 0);
        check.answers(6, "no line for 0", () -> x.count(0, false));
        check.answers(1, "the first line", () -> x.line(1, 0, 0, 0));
    }

    private static void weights(Check check) {
        check.sentence("An ELEMENT has weights p, s, t, 0 .. 65535");
        for (int weight : Check.outside(0, 65535)) {
            WeightOrder x = new WeightOrder();
            x.line(1, 1, 0, 0);
            check.refuses("p " + weight, () -> x.element(weight, 1, 1, false));
            check.refuses("s " + weight, () -> x.element(1, weight, 1, false));
            check.refuses("t " + weight, () -> x.element(1, 1, weight, true));
        }
        int[] edges = {0, 1, 32767, 32768, 65534, 65535};
        for (int p : edges) {
            for (int s : edges) {
                for (int t : edges) {
                    WeightOrder x = new WeightOrder();
                    x.line(1, 1, 0, 0);
                    check.answers(1, p + " " + s + " " + t, () -> x.element(p, s, t, false));
                    x.add(0, 1);
                    check.elements("[" + p + "." + s + "." + t + ".0]", "kept", x, 0, false);
                }
            }
        }
    }

    private static void variable(Check check) {
        check.sentence("and is variable (*) or not");
        WeightOrder x = new WeightOrder();
        Check.tellAll(x, "5 6 7 *, 5 6 7, 5 6 7 *, 5 6 7, 5 6 7, 5 6 7 *, 5 6 7 *, 5 6 7", 1);
        x.add(0, 1);
        StringBuilder fourths = new StringBuilder();
        for (int i = 0; i < 8; i++) {
            fourths.append(x.weight(0, true, i, 3)).append(' ');
            int p = x.weight(0, false, i, 0);
            check.answers(5, "p of " + i + " without SHIFTED", () -> p);
        }
        check.due("5 65535 5 65535 65535 5 5 65535 ", "fourths", fourths.toString());
        x.line(1, 1, 0, 0);
        x.element(5, 6, 7, false);
        check.elements("[5.6.7.65535]", "not variable in place of a variable one", x, 0, true);
        x.line(1, 1, 0, 0);
        x.element(5, 6, 7, true);
        check.elements("[0.0.0.5]", "variable in place of one that is not", x, 0, true);
    }
}
