/** Promise 7: count. */
public final class CountTest {
    public static void main(String[] args) {
        Check check = new Check();
        wrongNumbers(check);
        zerosCount(check);
        asTheLinesAreWhenAsked(check);
        mostElements(check);
        changesNothing(check);
        check.end();
    }

    private static void both(Check check, int want, String what, WeightOrder x, int r) {
        check.answers(want, what, () -> x.count(r, false));
        check.answers(want, what + ", shifted", () -> x.count(r, true));
    }

    private static void wrongNumbers(Check check) {
        WeightOrder x = new WeightOrder();
        check.refuses("row -1", () -> x.count(-1, false));
        check.refuses("row 4", () -> x.count(4, true));
        both(check, 0, "row 3", x, 3);
    }

    private static void zerosCount(Check check) {
        WeightOrder x = new WeightOrder();
        x.line(1, 1, 0, 0);
        x.element(0, 0, 0, false);
        x.element(0, 0, 0, true);
        x.element(5, 0, 0, true);
        x.element(0, 7, 7, false);
        Check.fill(x, 0, 1);
        both(check, 4, "also those that are all 0", x, 0);
        x.line(1, 2, 0, 0);
        Check.fill(x, 0, 2, 2, 2);
        both(check, 0, "a line without elements", x, 0);
        Check.fill(x, 0, 3);
        both(check, 2, "implicit", x, 0);
    }

    private static void asTheLinesAreWhenAsked(Check check) {
        WeightOrder x = new WeightOrder();
        Check.fill(x, 0, 1, 2);
        both(check, 4, "implicit both", x, 0);
        x.line(2, 1, 2, 0);
        both(check, 0, "line told behind", x, 0);
        x.element(1, 1, 1, false);
        both(check, 1, "element told behind", x, 0);
    }

    private static void mostElements(Check check) {
        WeightOrder x = new WeightOrder();
        x.line(1, 1, 0, 0);
        for (int k = 1; k <= 8; k++) {
            x.element(k, 0, 0, false);
        }
        for (int k = 0; k < 200; k++) {
            x.add(0, 1);
            x.add(1, 1);
        }
        both(check, 1600, "200 points of 8 elements", x, 0);
        check.answers(8, "the last", () -> x.weight(0, false, 1599, 0));
        check.refuses("one more", () -> x.weight(0, false, 1600, 0));
        check.answers(0, "the longest rows are the same", () -> x.compare(0, 1, 4, true));
        x.clear(1);
        check.answers(1, "and behind the empty one", () -> x.compare(0, 1, 4, true));
    }

    private static void changesNothing(Check check) {
        WeightOrder x = new WeightOrder();
        Check.tell(x, 10, 1);
        Check.tell(x, 13, 1, 3);
        x.order(2, 1);
        x.order(3, 2);
        Check.fill(x, 0, 1, 2, 3);
        String once = Check.elementsOf(x, 0, false);
        x.compare(0, 0, 4, true);
        x.count(0, true);
        check.elements(once, "asking takes nothing from the row", x, 0, false);
        check.answers(3, "its points", () -> x.clear(0));
    }
}
