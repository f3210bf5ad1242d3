/** 'Terms': what is thrown, in which order, and that a call that throws changes nothing. */
public final class BoundsOfThrowingTest {
    private static final int LAST = Check.LAST_POINT;
    private static final int PARTS = 12;

    interface Refused {
        long on(WeightOrder x);
    }

    private static final Refused[] OUT_OF_RANGE = {
        x -> Check.order(x, -1, 5), x -> Check.order(x, LAST + 1, 5), x -> Check.order(x, (1 << 21) + 3, 1),
        x -> Check.order(x, 2, -1), x -> Check.order(x, 2, 255), x -> Check.order(x, 3, 256),
        x -> Check.order(x, 1, 255), x -> Check.order(x, Integer.MAX_VALUE, Integer.MIN_VALUE),
        x -> x.line(0, 1, 1, 1), x -> x.line(4, 1, 3, 1), x -> x.line(-1, 1, 1, 1), x -> x.line(1, -1, 0, 0),
        x -> x.line(1, LAST + 1, 0, 0), x -> x.line(1, 1, -1, 0), x -> x.line(1, 1, LAST + 1, 0),
        x -> x.line(1, 1, 0, -1), x -> x.line(1, 1, 0, LAST + 1), x -> x.line(2, 1, 3, -1),
        x -> x.line(2, 1, 3, LAST + 1), x -> x.line(3, 1, 3, -1), x -> x.line(2, 1, -1, 0),
        x -> x.line(3, 1, 9, LAST + 1), x -> x.line(1, (1 << 21) + 1, 0, 0),
        x -> x.element(-1, 1, 1, true), x -> x.element(65536, 1, 1, true), x -> x.element(1, -1, 1, true),
        x -> x.element(1, 65536, 1, true), x -> x.element(1, 1, -1, true), x -> x.element(1, 1, 65536, true),
        x -> x.add(-1, 1), x -> x.add(4, 1), x -> x.add(0, -1), x -> x.add(1, LAST + 1), x -> x.add(2, 1 << 21),
        x -> x.clear(-1), x -> x.clear(4), x -> x.clear(256), x -> x.clear(Integer.MIN_VALUE),
        x -> x.count(-1, true), x -> x.count(4, false),
        x -> x.weight(-1, true, 0, 0), x -> x.weight(4, true, 0, 0), x -> x.weight(0, true, -1, 0),
        x -> x.weight(0, true, 1600, 0), x -> x.weight(0, false, 0, -1), x -> x.weight(0, false, 0, 4),
        x -> x.compare(-1, 0, 1, true), x -> x.compare(0, 4, 1, true), x -> x.compare(0, 1, 0, true),
        x -> x.compare(0, 1, 5, false),
    };

    public static void main(String[] args) {
        Check check = new Check();
        rangeBeforeRoom(check);
        noRoom(check);
        outOfRangeChangesNothing(check);
        noRoomForElementOrPointChangesNothing(check);
        noRoomForLineChangesNothing(check);
        check.end();
    }

    private static void rangeBeforeRoom(Check check) {
        check.sentence("What is thrown, in this order: IllegalArgumentException: a number out of range");
        WeightOrder x = full();
        check.refuses("line with n 0", () -> x.line(0, 777, 0, 0));
        check.refuses("line with n 4", () -> x.line(4, 777, 0, 0));
        check.refuses("line with a out of range", () -> x.line(1, -1, 0, 0));
        check.refuses("line with b out of range", () -> x.line(1, 777, LAST + 1, 0));
        check.refuses("line with c out of range", () -> x.line(1, 777, 0, LAST + 1));
        WeightOrder y = fullLineAndRow();
        check.refuses("element with p out of range", () -> y.element(-1, 0, 0, false));
        check.refuses("element with s out of range", () -> y.element(0, 65536, 0, false));
        check.refuses("element with t out of range", () -> y.element(0, 0, 65536, false));
        check.refuses("add of a point out of range", () -> y.add(0, LAST + 1));
        check.refuses("add of point -1", () -> y.add(0, -1));
        check.refuses("add to row 4", () -> y.add(4, 1));
        WeightOrder z = new WeightOrder();
        check.refuses("element without a line, in range", () -> z.element(0, 0, 0, false));
        check.refuses("element without a line, out of range", () -> z.element(65536, 0, 0, false));
    }

    private static void noRoom(Check check) {
        check.sentence("IndexOutOfBoundsException: no room");
        WeightOrder x = full();
        check.hasNoRoom("line", () -> x.line(1, 777, 0, 0));
        check.hasNoRoom("line again", () -> x.line(3, 777, 777, 777));
        WeightOrder y = fullLineAndRow();
        check.hasNoRoom("element", () -> y.element(0, 0, 0, false));
        check.hasNoRoom("element again", () -> y.element(1, 1, 1, true));
        check.hasNoRoom("add", () -> y.add(0, 1));
        check.hasNoRoom("add again", () -> y.add(0, 0));
    }

    /** 500 lines: point k alone, k from 0. */
    private static WeightOrder full() {
        WeightOrder x = new WeightOrder();
        for (int k = 0; k < 500; k++) {
            x.line(1, k, 0, 0);
        }
        return x;
    }

    /** The line told last has 8 elements, and row 0 has 200 points. */
    private static WeightOrder fullLineAndRow() {
        WeightOrder x = some();
        Check.tellAll(x, "1 1 1, 2 2 2 *, 3 3 3, 4 4 4 *, 0 5 5, 6 6 6, 7 7 7, 8 8 8", 1);
        x.clear(0);
        for (int k = 0; k < 200; k++) {
            x.add(0, k == 199 ? 1 : k % 7 == 0 ? 5 : 6);
        }
        return x;
    }

    /** Classes, lines and rows such that a change of any of them is seen in one of the parts. */
    private static WeightOrder some() {
        WeightOrder x = new WeightOrder();
        x.order(2, 2);
        x.order(3, 3);
        x.order(0, 1);
        x.order(LAST, 254);
        Check.tellAll(x, "10 1 1, 11 1 1 *", 1);
        Check.tellAll(x, "0 2 2", 2);
        Check.tellAll(x, "30 3 3", 3);
        Check.tellAll(x, "13 4 4", 1, 3);
        Check.tellAll(x, "", 5);
        Check.tellAll(x, "14 5 5 *, 0 7 7", 1, LAST);
        Check.fill(x, 0, 1, 2, 3, 1);
        Check.fill(x, 1, 1, 0, LAST, 5, 7);
        Check.fill(x, 2, 1, LAST, 3, 1, 3, 2);
        Check.fill(x, 3, 1);
        return x;
    }

    /** What one sees of an object; each part is asked of a new one, for some of them change it. */
    private static String seen(WeightOrder x, int part) {
        if (part < 8) {
            return elements(x, part / 2, part % 2 == 1);
        }
        switch (part) {
            case 8:
                return "element " + Check.outcomeOf(() -> x.element(77, 7, 7, false)) + elements(x, 1, false);
            case 9:
                return "lines " + Check.outcomeOf(() -> x.line(3, 900, 900, 900));
            case 10:
                return "points " + x.clear(0) + " " + x.clear(1) + " " + x.clear(2) + " " + x.clear(3);
            default:
                StringBuilder text = new StringBuilder("order");
                for (int k = 0; k < 16; k++) {
                    text.append(' ').append(x.compare(k / 4, k % 4, 4, true));
                }
                return text.toString();
        }
    }

    // Rows may be long here, so that only the first and last elements are looked at.
    private static String elements(WeightOrder x, int r, boolean shifted) {
        int n = x.count(r, shifted);
        StringBuilder text = new StringBuilder().append(n);
        for (int i = 0; i < n; i++) {
            if (i < 12 || i > n - 12) {
                for (int which = 0; which < 4; which++) {
                    text.append(which == 0 ? " " : ".").append(x.weight(r, shifted, i, which));
                }
            }
        }
        return text.toString();
    }

    private static void outOfRangeChangesNothing(Check check) {
        check.sentence("A call that throws changes nothing: a number out of range");
        for (int k = 0; k < OUT_OF_RANGE.length; k++) {
            Refused refused = OUT_OF_RANGE[k];
            for (int part = 0; part < PARTS; part++) {
                WeightOrder x = some();
                check.refuses("refused call " + k, () -> refused.on(x));
                check.due(seen(some(), part), "part " + part + " behind refused call " + k, seen(x, part));
            }
        }
    }

    private static void noRoomForElementOrPointChangesNothing(Check check) {
        check.sentence("A call that throws changes nothing: no room for an ELEMENT or a POINT");
        for (int part = 0; part < PARTS; part++) {
            String before = seen(fullLineAndRow(), part);
            WeightOrder x = fullLineAndRow();
            check.hasNoRoom("element", () -> x.element(9, 9, 9, false));
            check.due(before, "part " + part + " behind element", seen(x, part));
            WeightOrder y = fullLineAndRow();
            check.hasNoRoom("add", () -> y.add(0, 3));
            check.due(before, "part " + part + " behind add", seen(y, part));
            WeightOrder z = fullLineAndRow();
            check.refuses("element", () -> z.element(9, 9, 65536, false));
            check.refuses("add", () -> z.add(0, -1));
            check.due(before, "part " + part + " behind both out of range", seen(z, part));
        }
    }

    private static void noRoomForLineChangesNothing(Check check) {
        check.sentence("A call that throws changes nothing: no room for a LINE");
        for (int k = 0; k < 500; k++) {
            WeightOrder x = full();
            check.answers(1, "the line told last", () -> x.element(5, 5, 5, false));
            check.hasNoRoom("line", () -> x.line(1, 777, 0, 0));
            x.add(0, k);
            check.answers(k == 499 ? 1 : 0, "the line of " + k, () -> x.count(0, false));
        }
        WeightOrder x = full();
        check.hasNoRoom("line", () -> x.line(2, 499, 499, 0));
        x.add(0, 499);
        x.add(0, 499);
        check.answers(0, "no line of the refused points", () -> x.count(0, false));
        check.answers(1, "the line told last is still that one", () -> x.element(5, 5, 5, false));
        check.answers(2, "the line told last got it", () -> x.count(0, false));
        check.answers(500, "how many there are", () -> x.line(1, 0, 0, 0));
        check.hasNoRoom("line", () -> x.line(1, 777, 0, 0));
        check.answers(1, "the one told in between", () -> x.element(6, 6, 6, false));
        x.add(1, 777);
        check.answers(2, "no line of 777", () -> x.count(1, false));
    }
}
