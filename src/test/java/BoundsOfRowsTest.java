/** Promises 5 to 9: add, clear, count, weight and compare, a sentence each. */
public final class BoundsOfRowsTest {
    private static final int LAST = Check.LAST_POINT;

    public static void main(String[] args) {
        Check check = new Check();
        rowNumbers(check);
        onePointMore(check);
        moreThanTwoHundred(check);
        howManyPoints(check);
        rowIsEmpty(check);
        howManyItHad(check);
        howManyElements(check);
        allZeroCounts(check);
        whichWeight(check);
        fourthNotShifted(check);
        elementFromZero(check);
        noSuchElement(check);
        strengthFour(check);
        beforeTheSameBehind(check);
        check.end();
    }

    private static WeightOrder filled(int r, int many, int point) {
        WeightOrder x = new WeightOrder();
        for (int k = 0; k < many; k++) {
            x.add(r, point);
        }
        return x;
    }

    private static void rowNumbers(Check check) {
        check.sentence("Promise 5: r 0 .. 3 (so for all)");
        WeightOrder x = new WeightOrder();
        for (int r : Check.outside(0, 3)) {
            check.refuses("add " + r, () -> x.add(r, 1));
            check.refuses("clear " + r, () -> x.clear(r));
            check.refuses("count " + r, () -> x.count(r, true));
            check.refuses("weight " + r, () -> x.weight(r, true, 0, 0));
            check.refuses("compare " + r, () -> x.compare(r, 3, 4, true));
            check.refuses("compare with " + r, () -> x.compare(3, r, 4, true));
        }
        for (int r = 0; r <= 3; r++) {
            int row = r;
            check.answers(1, "add " + r, () -> x.add(row, 1));
            check.answers(2, "count " + r, () -> x.count(row, true));
            check.answers(64448, "weight " + r, () -> x.weight(row, true, 0, 0));
            check.answers(0, "compare " + r, () -> x.compare(row, row, 4, true));
            check.answers(1, "clear " + r, () -> x.clear(row));
        }
    }

    private static void onePointMore(Check check) {
        check.sentence("Promise 5: One POINT more");
        WeightOrder x = new WeightOrder();
        check.answers(1, "point 0", () -> x.add(1, 0));
        check.answers(2, "point 1114111", () -> x.add(1, LAST));
        check.answers(3, "point 0 again", () -> x.add(1, 0));
        check.elements("[64448.32.2.0][32768.0.0.0][64481.32.2.0][65535.0.0.0][64448.32.2.0][32768.0.0.0]",
                "behind the others", x, 1, false);
        for (int r = 0; r <= 3; r++) {
            int row = r;
            check.answers(r == 1 ? 6 : 0, "count of row " + r, () -> x.count(row, false));
        }
        for (int point : Check.outside(0, LAST)) {
            check.refuses("point " + point, () -> x.add(1, point));
        }
    }

    private static void moreThanTwoHundred(Check check) {
        check.sentence("Promise 5: more than 200: IndexOutOfBoundsException");
        for (int r = 0; r <= 3; r++) {
            int row = r;
            WeightOrder x = filled(r, 199, 1);
            check.answers(200, "the 200th", () -> x.add(row, 2));
            check.hasNoRoom("the 201st", () -> x.add(row, 3));
            check.hasNoRoom("the 201st again", () -> x.add(row, LAST));
            check.answers(32770, "the 200th is the last", () -> x.weight(row, false, 399, 0));
            check.answers(1, "another row", () -> x.add(3 - row, 1));
            check.answers(200, "cleared", () -> x.clear(row));
            check.answers(1, "room again", () -> x.add(row, 1));
        }
    }

    private static void howManyPoints(Check check) {
        check.sentence("Promise 5: Answers how many");
        WeightOrder x = new WeightOrder();
        x.line(1, 1, 0, 0);
        for (int k = 1; k <= 200; k++) {
            int many = k;
            check.answers(k, "points of row 0, which have no elements", () -> x.add(0, 1));
            check.answers(k, "points of row 3", () -> x.add(3, many));
        }
    }

    private static void rowIsEmpty(Check check) {
        check.sentence("Promise 6: The ROW is empty");
        for (int r = 0; r <= 3; r++) {
            int row = r;
            int other = (r + 1) % 4;
            WeightOrder x = filled(r, 200, 1);
            x.add(other, 1);
            x.clear(r);
            check.answers(0, "count", () -> x.count(row, false));
            check.refuses("weight", () -> x.weight(row, false, 0, 0));
            check.answers(-1, "before another", () -> x.compare(row, other, 1, false));
            check.answers(2, "the other stays", () -> x.count(other, false));
            check.answers(1, "add", () -> x.add(row, 2));
            check.elements("[64448.32.2.0][32770.0.0.0]", "that point alone", x, r, false);
        }
    }

    private static void howManyItHad(Check check) {
        check.sentence("Promise 6: Answers how many POINTS it had");
        int[] sizes = {0, 1, 2, 199, 200};
        for (int size : sizes) {
            WeightOrder x = filled(2, size, 7);
            check.answers(size, "points", () -> x.clear(2));
            check.answers(0, "cleared again", () -> x.clear(2));
        }
        WeightOrder x = filled(2, 200, 7);
        check.hasNoRoom("the 201st", () -> x.add(2, 7));
        check.answers(200, "not more than 200", () -> x.clear(2));
        x.line(1, 7, 0, 0);
        x.add(2, 7);
        check.answers(1, "points, not elements", () -> x.clear(2));
    }

    private static void howManyElements(Check check) {
        check.sentence("Promise 7: How many ELEMENTS the ROW has");
        int[] sizes = {0, 1, 199, 200};
        for (int size : sizes) {
            WeightOrder x = filled(1, size, 7);
            check.answers(2 * size, "IMPLICIT", () -> x.count(1, false));
            Check.tellAll(x, "1 1 1, 2 2 2 *, 0 3 3, 0 0 0, 5 5 5, 6 6 6, 7 7 7, 8 8 8", 7);
            check.answers(8 * size, "eight of each point", () -> x.count(1, false));
            check.answers(8 * size, "shifted", () -> x.count(1, true));
            x.line(1, 7, 0, 0);
            check.answers(0, "none of each point", () -> x.count(1, true));
            x.line(3, 7, 7, 7);
            x.element(1, 1, 1, true);
            check.answers(size / 3, "one of three points", () -> x.count(1, true));
        }
    }

    private static void allZeroCounts(Check check) {
        check.sentence("Promise 7: (also those that are all 0)");
        WeightOrder x = filled(0, 1, 1);
        x.line(1, 1, 0, 0);
        for (int k = 1; k <= 8; k++) {
            x.element(0, 0, 0, k % 2 == 0);
            check.answers(k, "all 0", () -> x.count(0, false));
            check.answers(k, "all 0, shifted", () -> x.count(0, true));
        }
        Check.tellAll(x, "5 0 0 *, 0 1 1, 0 0 0", 1);
        check.answers(3, "those that SHIFTED makes all 0", () -> x.count(0, true));
    }

    private static void whichWeight(Check check) {
        check.sentence("Promise 8: Weight 0 .. 3 (p, s, t, the fourth)");
        WeightOrder x = filled(0, 1, 1);
        Check.tellAll(x, "11 12 13", 1);
        check.answers(11, "p", () -> x.weight(0, true, 0, 0));
        check.answers(12, "s", () -> x.weight(0, true, 0, 1));
        check.answers(13, "t", () -> x.weight(0, true, 0, 2));
        check.answers(65535, "the fourth", () -> x.weight(0, true, 0, 3));
        for (int which : Check.outside(0, 3)) {
            check.refuses("weight " + which, () -> x.weight(0, true, 0, which));
            check.refuses("weight " + which + " not shifted", () -> x.weight(0, false, 0, which));
        }
    }

    private static void fourthNotShifted(Check check) {
        check.sentence("Promise 8: 0 if not SHIFTED");
        WeightOrder x = filled(0, 2, 1);
        check.answers(0, "of IMPLICIT", () -> x.weight(0, false, 3, 3));
        Check.tellAll(x, "65535 65535 65535, 65535 65535 65535 *, 0 1 1, 0 0 0", 1);
        for (int k = 0; k < 8; k++) {
            int i = k;
            x.weight(0, true, i, 3);
            check.answers(0, "of element " + i, () -> x.weight(0, false, i, 3));
        }
        check.answers(65535, "shifted, not *", () -> x.weight(0, true, 4, 3));
    }

    private static void elementFromZero(Check check) {
        check.sentence("Promise 8: of ELEMENT i, from 0");
        WeightOrder x = filled(0, 200, 1);
        Check.tellAll(x, "1 0 0, 2 0 0, 3 0 0, 4 0 0, 5 0 0, 6 0 0, 7 0 0, 8 0 0", 1);
        int[] places = {0, 1, 7, 8, 255, 256, 799, 800, 1592, 1598, 1599};
        for (int i : places) {
            check.answers(i % 8 + 1, "element " + i, () -> x.weight(0, false, i, 0));
        }
    }

    private static void noSuchElement(Check check) {
        check.sentence("Promise 8: there is none: IllegalArgumentException");
        WeightOrder x = filled(0, 200, 1);
        Check.tellAll(x, "1 0 0, 2 0 0, 3 0 0, 4 0 0, 5 0 0, 6 0 0, 7 0 0, 8 0 0", 1);
        for (int i : Check.outside(0, 1599)) {
            check.refuses("element " + i + " of 1600", () -> x.weight(0, false, i, 0));
            check.refuses("element " + i + " of none", () -> x.weight(1, true, i, 0));
        }
        check.refuses("element 0 of none", () -> x.weight(1, true, 0, 0));
        x.add(1, 2);
        check.answers(32770, "element 1 of 2", () -> x.weight(1, true, 1, 0));
        check.refuses("element 2 of 2, though a longer row was asked before", () -> x.weight(1, true, 2, 0));
        x.line(1, 2, 0, 0);
        check.refuses("element 0 of a line without", () -> x.weight(1, false, 0, 0));
        x.element(0, 0, 0, false);
        check.answers(0, "element 0, all 0", () -> x.weight(1, false, 0, 0));
        check.refuses("element 1 of 1", () -> x.weight(1, false, 1, 0));
    }

    private static void strengthFour(Check check) {
        check.sentence("Promise 9: (strength 4 without SHIFTED: as 3)");
        WeightOrder x = new WeightOrder();
        Check.tellAll(x, "1 1 1", 1);
        Check.tellAll(x, "1 0 0, 0 1 0, 0 0 1", 2);
        Check.tellAll(x, "1 1 1 *", 3);
        Check.tellAll(x, "1 1 2 *", 4);
        for (int r = 0; r <= 3; r++) {
            x.add(r, r + 1);
        }
        for (int r = 0; r <= 3; r++) {
            for (int u = 0; u <= 3; u++) {
                int row = r;
                int other = u;
                int want = Integer.compare(r / 3, u / 3);
                check.answers(want, r + " and " + u + " by 3", () -> x.compare(row, other, 3, false));
                check.answers(want, r + " and " + u + " by 4", () -> x.compare(row, other, 4, false));
            }
        }
        check.answers(-1, "the fourths, shifted", () -> x.compare(0, 1, 4, true));
        check.answers(0, "t, shifted", () -> x.compare(0, 1, 3, true));
    }

    private static void beforeTheSameBehind(Check check) {
        check.sentence("Promise 9: -1, 0, 1 if ROW r is before, the same, behind ROW u");
        WeightOrder x = new WeightOrder();
        Check.tellAll(x, "1 1 1", 1);
        Check.tellAll(x, "65535 65535 65535", 2);
        Check.tellAll(x, "", 3);
        Check.fill(x, 0, 1);
        Check.fill(x, 1, 2);
        Check.fill(x, 2, 3);
        int[] place = {1, 2, 0, 0};
        for (int k = 0; k < 128; k++) {
            int r = k / 4 % 4;
            int u = k % 4;
            int strength = 1 + k / 16 % 4;
            boolean shifted = k >= 64;
            check.answers(Integer.compare(place[r], place[u]), r + " and " + u + " by " + strength,
                    () -> x.compare(r, u, strength, shifted));
        }
        check.refuses("strength 0", () -> x.compare(0, 0, 0, true));
        check.refuses("strength 5", () -> x.compare(0, 0, 5, true));
    }
}
