/** Promise 6: clear. */
public final class ClearTest {
    public static void main(String[] args) {
        Check check = new Check();
        WeightOrder x = new WeightOrder();
        check.refuses("row -1", () -> x.clear(-1));
        check.refuses("row 4", () -> x.clear(4));
        Check.tell(x, 10, 1);
        Check.tell(x, 13, 1, 3);
        x.order(2, 1);
        x.order(3, 2);
        Check.fill(x, 0, 1, 1, 1);
        Check.fill(x, 1, 1, 1);
        check.answers(3, "points it had, not elements", () -> x.clear(0));
        check.answers(0, "clear again", () -> x.clear(0));
        check.answers(0, "count", () -> x.count(0, true));
        check.refuses("weight", () -> x.weight(0, false, 0, 0));
        check.answers(2, "the other row stays", () -> x.count(1, false));
        check.answers(-1, "empty before the other", () -> x.compare(0, 1, 1, false));
        check.answers(1, "add", () -> x.add(0, 1));
        check.elements("[10.0.0.0]", "nothing of before comes back", x, 0, false);
        Check.fill(x, 0, 1, 2, 3);
        check.answers(3, "lines and classes stay", () -> x.count(0, false));
        check.answers(13, "the line over 2", () -> x.weight(0, false, 0, 0));
        check.answers(2, "no new line", () -> x.line(1, 1, 0, 0));
        check.end();
    }
}
