/** Promise 9: compare. */
public final class CompareTest {
    private static final String[] ROWS = {"", "5 6 7", "5 6 8", "5 7 0", "6 0 0", "5 0 0, 0 6 0, 0 0 7", "0 0 0"};

    public static void main(String[] args) {
        Check check = new Check();
        wrongNumbers(check);
        byLevels(check);
        zerosAreLeftOut(check);
        byFourths(check);
        bothWays(check);
        check.end();
    }

    private static void wrongNumbers(Check check) {
        WeightOrder x = new WeightOrder();
        check.refuses("r -1", () -> x.compare(-1, 0, 1, false));
        check.refuses("r 4", () -> x.compare(4, 0, 1, false));
        check.refuses("u -1", () -> x.compare(0, -1, 1, false));
        check.refuses("u 4", () -> x.compare(0, 4, 1, false));
        check.refuses("strength 0", () -> x.compare(0, 1, 0, false));
        check.refuses("strength 5", () -> x.compare(0, 1, 5, true));
        check.refuses("strength MIN", () -> x.compare(0, 0, Integer.MIN_VALUE, true));
        check.answers(0, "strength 4 without shifted", () -> x.compare(3, 3, 4, false));
    }

    /** The answers for strength 1 .. 4 without and then with SHIFTED. */
    private static String of(String first, String second) {
        WeightOrder x = new WeightOrder();
        tell(x, 0, first);
        tell(x, 3, second);
        StringBuilder text = new StringBuilder();
        for (int k = 0; k < 8; k++) {
            text.append(k == 0 ? "" : k == 4 ? " | " : " ").append(x.compare(0, 3, k % 4 + 1, k >= 4));
        }
        return text.toString();
    }

    private static void tell(WeightOrder x, int r, String elements) {
        Check.tellAll(x, elements, 10 + r);
        x.add(r, 10 + r);
    }

    private static void byLevels(Check check) {
        check.due("0 0 0 0 | 0 0 0 0", "the same", of("5 6 7", "5 6 7"));
        check.due("-1 -1 -1 -1 | -1 -1 -1 -1", "p", of("5 9 9", "6 1 1"));
        check.due("0 -1 -1 -1 | 0 -1 -1 -1", "s", of("5 6 9", "5 7 1"));
        check.due("0 0 -1 -1 | 0 0 -1 -1", "t", of("5 6 7", "5 6 8"));
        check.due("0 0 1 1 | 0 0 1 1", "t behind", of("5 6 8", "5 6 7"));
        check.due("1 1 1 1 | 1 1 1 1", "highest weights", of("65535 0 0", "32767 65535 65535"));
        check.due("-1 -1 -1 -1 | -1 -1 -1 -1", "a beginning", of("5 6 7", "5 6 7, 5 6 7"));
        check.due("1 1 1 1 | 1 1 1 1", "behind its beginning", of("5 6 7, 1 0 0", "5 6 7"));
        check.due("-1 -1 -1 -1 | -1 -1 -1 -1", "the first that differs", of("5 6 7, 9 9 9, 9 9 9", "6 0 0"));
        check.due("-1 -1 -1 -1 | -1 -1 -1 -1", "all p before any s", of("5 9 9, 5 0 0", "5 1 1, 6 0 0"));
        check.due("0 -1 -1 -1 | 0 -1 -1 -1", "all s before any t", of("5 1 9, 5 1 9", "5 1 1, 5 2 1"));
        check.due("-1 -1 -1 -1 | -1 -1 -1 -1", "empty before another", of("", "5 0 0"));
        check.due("0 -1 -1 -1 | 0 -1 -1 -1", "empty before s alone", of("", "0 1 0"));
    }

    private static void zerosAreLeftOut(Check check) {
        check.due("0 0 0 0 | 0 0 0 -1", "levels apart", of("5 6 7", "5 0 0, 0 6 0, 0 0 7"));
        check.due("0 0 0 0 | 0 0 0 0", "all 0 is nothing", of("0 0 0, 5 6 7, 0 0 0", "5 6 7"));
        check.due("0 0 0 0 | 0 0 0 0", "all 0 alone", of("0 0 0 *", ""));
        check.due("0 1 1 1 | 0 1 1 1", "s in front", of("0 9 0, 5 6 7", "5 6 7"));
    }

    private static void byFourths(Check check) {
        check.due("0 0 0 0 | 1 1 1 1", "variable before", of("5 6 7", "5 6 7 *"));
        check.due("-1 -1 -1 -1 | 0 0 0 -1", "variable ones by p", of("5 6 7 *", "6 1 1 *"));
        check.due("0 -1 -1 -1 | 0 0 0 0", "variable ones alike", of("5 6 7 *", "5 7 7 *"));
        check.due("1 1 1 1 | 0 0 0 1", "variable behind nothing", of("5 6 7 *", ""));
        check.due("0 1 1 1 | 0 0 0 0", "what is shifted away", of("5 6 7 *, 0 8 9", "5 6 7 *"));
        check.due("-1 -1 -1 -1 | 0 0 0 -1", "a variable one between",
                of("9 1 1, 5 6 7 *, 9 1 1", "9 1 1, 9 1 1"));
        check.due("1 1 1 1 | 0 0 0 1", "a variable one at the end", of("9 1 1, 5 6 7 *", "9 1 1"));
        check.due("1 1 1 1 | 0 0 0 1", "two variable and one", of("5 6 7 *, 5 6 7 *", "5 6 7 *"));
    }

    private static void bothWays(Check check) {
        for (String first : ROWS) {
            for (String second : ROWS) {
                check.due(of(first, second).replace("-1", "x").replace("1", "-1").replace("x", "1"),
                        first + " and " + second + " the other way", of(second, first));
            }
        }
        WeightOrder x = new WeightOrder();
        Check.fill(x, 2, 3, 4, 5);
        check.answers(0, "a row with itself", () -> x.compare(2, 2, 4, true));
        Check.fill(x, 1, 3, 4, 6);
        check.answers(1, "implicit behind", () -> x.compare(1, 2, 1, false));
        check.answers(-1, "implicit before", () -> x.compare(2, 1, 1, false));
    }
}
